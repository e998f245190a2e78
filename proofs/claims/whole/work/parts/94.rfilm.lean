/-! the gladdest table, laid; dinners one behind the other -/
theorem lvs_T7 {r : Bool} : ∀ (f x S : Nat) (t : List Nat), T7 t → ∀ y, y ∈ lvs r f x S t → T7 y
  | 0, x, S, t, h, y, hy => by
    rw [lvs, List.mem_singleton] at hy
    rw [hy]; exact h
  | f + 1, x, S, t, h, y, hy => by
    rw [lvs, List.mem_flatMap] at hy
    obtain ⟨p, hp, hy⟩ := hy
    exact lvs_T7 f (x + 1) _ _ (h.set (cand_mem hp).1) y hy
theorem bst_mem {v : List Nat → Int} {r : Bool} {A : Nat} {wl : List (Option Nat)} {y : List Nat} (h : bstB v (lwf r A wl) = some y) : y ∈ tbs r A := by
  rcases updB_mem _ _ h with q | q
  · cases q
  · exact (List.mem_filter.mp q).1
theorem bst_T7 {v : List Nat → Int} {r : Bool} {A : Nat} {wl : List (Option Nat)} {y : List Nat} (h : bstB v (lwf r A wl) = some y) : T7 y := lvs_T7 _ _ _ _ T70 y (bst_mem h)
theorem bst_Dis {v : List Nat → Int} {r : Bool} {n : Nat} {wl : List (Option Nat)} {y : List Nat} (hn : n ≤ 7) (h : bstB v (lwf r (2 ^ n - 1) wl) = some y) : Dis n n y := by
  have h2 := (tbs_ok (n := n) (all_bit n hn).2 (fun p hp => all_in hp) (bst_mem h)).2.1
  rw [(all_bit n hn).1] at h2
  exact h2
def flR (n : Nat) (y : List Nat) : List Int32 := (List.range 40).map (fun j => if j < n then nI (y.getD j 0) else 0)
theorem flR_get {n : Nat} {y : List Nat} {j : Nat} (hj : j < 40) : (flR n y).getD j 0 = if j < n then nI (y.getD j 0) else 0 := by
  rw [flR, List.getD_eq_getElem?_getD, List.getElem?_map, List.getElem?_range hj]
  rfl
theorem FndQ.len {r : Bool} {m n : Nat} {D : List Nat} {v0 v1 : Nat → Nat → Nat → Int32} {LL : List (List Nat)} {wo : Bool} {q : Q5T} (h : FndQ r m n D v0 v1 LL wo q) : (bstB (totB v0 r m) LL = none → q.1.toInt = 0 ∧ q.2.1 = nI 0) ∧ (∀ y, bstB (totB v0 r m) LL = some y → 0 < q.1.toInt ∧ q.2.1 = nI (dgS y m)) := by
  obtain ⟨h1, h2, -⟩ := h
  refine ⟨fun e => ?_, fun y e => ?_⟩
  · rw [e] at h2
    rw [bstB_none.mp e] at h1
    exact ⟨h1, h2.1⟩
  · rw [e] at h2
    refine ⟨?_, h2.1⟩
    rw [h1]
    have : LL ≠ [] := fun q => by rw [q] at e; cases e
    have := List.length_pos_iff.mpr this
    omega
theorem RSH.up_up {b : Nat → List Int32} {sh : Nat → SH} {i : Nat} {so : Int32} {sz : Nat} {row row' : List Int32} (h : RSH b (up (up sh i (so, sz, row)) i (((up sh i (so, sz, row)) i).1, ((up sh i (so, sz, row)) i).2.1, row'))) : RSH b (up sh i (so, sz, row')) := by
  have e : up (up sh i (so, sz, row)) i (((up sh i (so, sz, row)) i).1, ((up sh i (so, sz, row)) i).2.1, row') = up sh i (so, sz, row') := by
    funext j
    unfold up
    split
    · simp
    · rfl
  rw [e] at h
  exact h
theorem SHG.up {sh : Nat → SH} {i : Nat} {so : Int32} {sz : Nat} {row : List Int32} (h : SHG sh) (h1 : so = -1 ∨ so = nI 0 ∨ so = nI 1 ∨ so = nI 2) (h2 : sz ≤ 40) (h3 : row.length = 40) : SHG (fun j => if j = i then (so, sz, row) else sh j) := by
  intro j hj
  by_cases e : j = i
  · simp only [if_pos e]; exact ⟨h1, h2, h3⟩
  · simp only [if_neg e]; exact h j hj
set_option maxHeartbeats 4000000 in
theorem lr_film {Q : Option Value → ZS → Prop} {σ0 : ZS} {a : Nat → Int32} {tw : Int64} {b : Nat → List Int32} {sh : Nat → SH} (hG : SHG sh) {i : Nat} (hi4 : i < 4) {n : Nat} (hn7 : n ≤ 7) {y : List Nat} (h7 : ∀ j, j < n → (b 7).getD j 0 = nI (y.getD j 0)) (hSn : RSH b (up sh i (nI 0, n, List.replicate 40 0))) {d : Nat} (hd : 0 ≤ d) (hout : ∀ (b1 : Nat → List Int32) (σ : ZS), RM σ0 σ a tw b1 → Fb 16 b b1 → RSH b1 (up sh i (nI 0, n, flR n y)) → X M_X8_film d 0 0 Q 0 0 82 [some (.ref 1000), some (.int (nI i)), some (.int (nI n)), some (.int (nI n))] [] σ) : ∀ (q k : Nat) (b1 : Nat → List Int32) (σ : ZS) (hR : RM σ0 σ a tw b1) (hB : Fb 16 b b1) (ho : ∀ p, p < i * 40 ∨ i * 40 + 40 ≤ p → (b1 16).getD p 0 = (b 16).getD p 0) (hz : ∀ j, j < k → (b1 16).getD (i * 40 + j) 0 = nI (y.getD j 0)), k + q = n → X M_X8_film d 0 0 (Q) 0 0 54 [some (.ref 1000), some (.int (nI i)), some (.int (nI n)), some (.int (nI k))] [] σ := by
  have hGn : SHG (up sh i (nI 0, n, List.replicate 40 0)) := hG.up (Or.inr (Or.inl rfl)) (by omega) (by simp)
  intro q
  induction q with
  | zero =>
    intro k b1 σ hR hB ho hz hk
    refine x_iload_n dX8_film_54 rfl ?_
    refine x_iload_n dX8_film_55 rfl ?_
    refine x_icmpN_ge (tgt := 82) dX8_film_56 (by decide) (by omega) (by omega) (fun hv1 => ?_) (fun hv1 => ?_)
    · obtain rfl : n = k := by omega
      exact hout b1 σ hR hB (hSn.row (i := i) (row := flR n y) hGn hi4 (hB 13 (by decide)) (hB 14 (by decide)) (hB 15 (by decide)) ho (fun _ j hj => by
        rw [up_eq] at hj
        simp only at hj
        rw [flR_get (by omega), if_pos hj]
        exact hz j (by omega))).up_up
    · exact absurd hv1 (by omega)
  | succ q ih =>
    intro k b1 σ hR hB ho hz hk
    refine x_iload_n dX8_film_54 rfl ?_
    refine x_iload_n dX8_film_55 rfl ?_
    refine x_icmpN_ge (tgt := 82) dX8_film_56 (by decide) (by omega) (by omega) (fun hv1 => ?_) (fun hv1 => ?_)
    · exact absurd hv1 (by omega)
    · refine x_aload_n dX8_film_59 rfl ?_
      refine x_rget f_X8_72 hR rfl dX8_film_60 ?_
      refine x_bipush (v := nI 40) dX8_film_63 (by decide) ?_
      refine x_iload_n dX8_film_65 rfl ?_
      refine x_imulN dX8_film_66 ?_
      refine x_topi (y := nI (i * 40)) (by rw [Nat.mul_comm]) ?_
      refine x_iload_n dX8_film_67 rfl ?_
      refine x_iaddN dX8_film_68 ?_
      refine x_aload_n dX8_film_69 rfl ?_
      refine x_rget f_X8_41 hR rfl dX8_film_70 ?_
      refine x_iload_n dX8_film_73 rfl ?_
      refine x_rald (j := 7) (n := k) hR rfl (by decide) rfl rfl (rlt hR (m := 7) (by decide) rfl (by omega)) dX8_film_74 ?_
      refine x_topi (y := nI ((y.getD k 0))) ((by rw [hB 7 (by decide)]; exact h7 _ (by omega))) ?_
      refine x_rast (j := 16) (n := (i * 40) + k) hR rfl (by decide) rfl rfl (rlt hR (m := 160) (by decide) rfl (by omega)) dX8_film_75 (fun sw2 Rw2 => ?_)
      refine x_iincN dX8_film_76 rfl (by decide) rfl ?_
      refine x_lv (lv' := [some (.ref 1000), some (.int (nI i)), some (.int (nI n)), some (.int (nI (k + 1)))]) rfl ?_
      refine x_goto (tgt := 54) dX8_film_79 (by decide) ?_
      refine ih (k + 1) (up b1 16 ((b1 16).set ((i * 40) + k) (nI ((y.getD k 0))))) sw2 Rw2 (hB.tr Fb.ups) (fun p hp => ?_) (fun j hj => ?_) (by omega)
      · rw [up_eq, gset (rlt hR (m := 160) (by decide) rfl (by omega)), if_neg (by omega)]; exact ho p hp
      · rw [up_eq, gset (rlt hR (m := 160) (by decide) rfl (by omega))]
        by_cases e : j = k
        · rw [if_pos (by omega), e]
        · rw [if_neg (by omega)]; exact hz j (by omega)
set_option maxHeartbeats 4000000 in
theorem r_film {σ0 σ : ZS} {a : Nat → Int32} {tw : Int64} {b : Nat → List Int32} {rr n : Nat} {K N : List Nat} {W : List Int32} {D : List Nat} {ru : Nat} {L S : List Nat} {lf jf : Nat} (hR : RM σ0 σ a tw b) (hW : BW a b rr n K N W D (-1) ru L S lf jf) (hg : Dg D) {sh : Nat → SH} (hS : RSH b sh) (hG : SHG sh) {i : Nat} (hi4 : i < 4) : Cn 182 M_X8_film 0 0 [.ref 1000, .int (nI i)] σ (fun r9 σ' => r9 = some (.int (nI (match (bstB (totB (vW false S lf jf K N W D n) (decide (rr = 1)) n) (lwf (decide (rr = 1)) (2 ^ n - 1) (wlS K N D n (2 ^ n - 1) (-1)))) with | none => (0, up sh i (nI 0, 0, List.replicate 40 0)) | some y => (n, up sh i (nI 0, n, flR n y))).1)) ∧ ∃ (a' : Nat → Int32) (tw' : Int64) (b' : Nat → List Int32), RM σ0 σ' a' tw' b' ∧ FrR a a' ∧ (∀ j, j ≠ 7 → j ≠ 8 → j ≠ 13 → j ≠ 14 → j ≠ 15 → j ≠ 16 → b' j = b j) ∧ RSH b' (match (bstB (totB (vW false S lf jf K N W D n) (decide (rr = 1)) n) (lwf (decide (rr = 1)) (2 ^ n - 1) (wlS K N D n (2 ^ n - 1) (-1)))) with | none => (0, up sh i (nI 0, 0, List.replicate 40 0)) | some y => (n, up sh i (nI 0, n, flR n y))).2) := by
  obtain ⟨hC, hT⟩ := id hW
  obtain ⟨c7, hrr, c13, hn7, c14, cK, cN, cW, cD, hN7, hW7, hD49, hK5, hN9, hD999⟩ := id hC
  have hA8 := (all_bit n hn7).2
  have hpc := (all_bit n hn7).1
  have hbits : ∀ p, (2 ^ n - 1).testBit p = true → p < n := fun p hp => all_in hp
  refine Cn.intro (lv0 := [some (.ref 1000), some (.int (nI i)), none, none]) rfl (Nat.le_of_ble_eq_true rfl) rfl (fun d hd => ?_)
  refine x_iload_n dX8_film_0 rfl ?_
  refine x_callS m_X8_isSheet l_X8_299 (r_isSheet (nI_toInt (by omega))) (by omega) rfl rfl (Nat.le_of_ble_eq_true rfl) ⟨Nat.le_refl _, Nat.le_refl _⟩ dX8_film_1 (fun r1 s1 q1 => ?_)
  obtain ⟨rfl, eq1⟩ := q1
  obtain rfl := eq1.symm
  refine x_stk (st' := [.int (bI (decide (0 ≤ ((i : Nat) : Int) ∧ ((i : Nat) : Int) ≤ 3)))]) rfl ?_
  refine x_ifP_ne (P := 0 ≤ ((i : Nat) : Int) ∧ ((i : Nat) : Int) ≤ 3) inferInstance (tgt := 10) dX8_film_4 (by decide) (fun hv2 => ?_) (fun hv2 => ?_)
  · refine x_aload_n dX8_film_10 rfl ?_
    refine x_aload_n dX8_film_11 rfl ?_
    refine x_callV m_X8_everybody l_X8_356 (r_everybody hR hC) rfl hR.2.1 (by omega) rfl rfl (Nat.le_of_ble_eq_true rfl) ⟨Nat.le_refl _, Nat.le_refl _⟩ dX8_film_12 (fun r3 s3 q3 => ?_)
    obtain ⟨rfl, eq3⟩ := q3
    obtain rfl := eq3.symm
    refine x_stk (st' := [.int (nI ((2 ^ n - 1))), .ref 1000]) rfl ?_
    refine x_iconst (v := nI 0) dX8_film_15 (by decide) ?_
    refine x_iconst (v := nI 0) dX8_film_16 (by decide) ?_
    refine x_topi (y := bI false) bI_f.symm ?_
    refine x_callV m_X8_seeksAll l_X8_359 (r_seekBest hR hW hA8 hbits hg) rfl hR.2.1 (by omega) rfl rfl (Nat.le_of_ble_eq_true rfl) ⟨Nat.le_refl _, Nat.le_refl _⟩ dX8_film_17 (fun r4 s4 q4 => ?_)
    obtain ⟨rfl, a4, tw4, b4, R4, A4, B4, m4, z4⟩ := q4
    refine x_stk (st' := []) rfl ?_
    refine x_aload_n dX8_film_20 rfl ?_
    refine x_rget f_X8_317 R4 rfl dX8_film_21 ?_
    rcases hbs : (bstB (totB (vW false S lf jf K N W D n) (decide (rr = 1)) n) (lwf (decide (rr = 1)) (2 ^ n - 1) (wlS K N D n (2 ^ n - 1) (-1)))) with _ | y
    · rw [hpc] at z4
      obtain ⟨l9, g9⟩ := z4.len.1 hbs
      have l9 : (a4 33).toInt = 0 := l9
      have g9 : a4 34 = nI 0 := g9
      refine x_ifT_le (p := ((a4 33)).toInt) (tgt := 34) rfl dX8_film_24 (by decide) (fun hv5 => ?_) (fun hv5 => ?_)
      · refine x_iconst (v := nI 0) dX8_film_34 (by decide) ?_
        refine x_istore_n dX8_film_35 (by decide) rfl ?_
        refine x_lv (lv' := [some (.ref 1000), some (.int (nI i)), some (.int (nI 0)), none]) rfl ?_
        refine x_aload_n dX8_film_36 rfl ?_
        refine x_aload_n dX8_film_37 rfl ?_
        refine x_rget f_X8_320 R4 rfl dX8_film_38 ?_
        refine x_topi (y := nI 0) g9 ?_
        refine x_callV m_X8_sitsBy l_X8_368 (r_sitsBy R4 (show a4 13 = nI n from (A4 13 (by omega)).trans c13) hn7) rfl R4.2.1 (by omega) rfl rfl (Nat.le_of_ble_eq_true rfl) ⟨Nat.le_refl _, Nat.le_refl _⟩ dX8_film_41 (fun r6 s6 q6 => ?_)
        obtain ⟨rfl, b6, R6, B6, e6⟩ := q6
        refine x_stk (st' := []) rfl ?_
        refine x_aload_n dX8_film_44 rfl ?_
        refine x_iload_n dX8_film_45 rfl ?_
        refine x_iconst (v := nI 0) dX8_film_46 (by decide) ?_
        refine x_iload_n dX8_film_47 rfl ?_
        refine x_callV m_X8_sheet l_X8_384 (r_sheet R6 (hS.fr ((B6 13 (by decide)).trans (B4 13 (by decide) (by decide))) ((B6 14 (by decide)).trans (B4 14 (by decide) (by decide))) ((B6 15 (by decide)).trans (B4 15 (by decide) (by decide))) ((B6 16 (by decide)).trans (B4 16 (by decide) (by decide)))) hG hi4 (so := nI 0) (by decide) (sz := 0) (by omega)) rfl R6.2.1 (by omega) rfl rfl (Nat.le_of_ble_eq_true rfl) ⟨Nat.le_refl _, Nat.le_refl _⟩ dX8_film_48 (fun r7 s7 q7 => ?_)
        obtain ⟨rfl, b7, R7, F7, S7⟩ := q7
        refine x_stk (st' := [.int (nI 1)]) rfl ?_
        refine x_pop dX8_film_51 rfl ?_
        refine x_iconst (v := nI 0) dX8_film_52 (by decide) ?_
        refine x_istore_n dX8_film_53 (by decide) rfl ?_
        refine x_lv (lv' := [some (.ref 1000), some (.int (nI i)), some (.int (nI 0)), some (.int (nI 0))]) rfl ?_
        refine x_iload_n dX8_film_54 rfl ?_
        refine x_iload_n dX8_film_55 rfl ?_
        refine x_icmpN_ge (tgt := 82) dX8_film_56 (by decide) (by omega) (by omega) (fun hv8 => ?_) (fun hv8 => ?_)
        · refine x_iload_n dX8_film_82 rfl ?_
          exact x_iret ⟨Nat.le_refl _, Nat.le_refl _⟩ rfl dX8_film_83 ⟨rfl, _, _, _, R7, (A4.up (by omega)), fun j h7 h8 h13 h14 h15 h16 => ((F7 j h13 h14 h15 h16).trans ((B6 j h7).trans (B4 j h7 h8))), S7⟩
        · exact absurd hv8 (by decide)
      · omega
    · rw [hpc] at z4
      obtain ⟨l9, g9⟩ := z4.len.2 y hbs
      have l9 : 0 < (a4 33).toInt := l9
      have g9 : a4 34 = nI (dgS y n) := g9
      have y7 := bst_T7 hbs
      have yd := bst_Dis hn7 hbs
      refine x_ifT_le (p := ((a4 33)).toInt) (tgt := 34) rfl dX8_film_24 (by decide) (fun hv9 => ?_) (fun hv9 => ?_)
      · omega
      · refine x_aload_n dX8_film_27 rfl ?_
        refine x_rget (v := .int (nI n)) f_X8_82 R4 (rg ((A4 13 (by omega)).trans c13)) dX8_film_28 ?_
        refine x_goto (tgt := 35) dX8_film_31 (by decide) ?_
        refine x_istore_n dX8_film_35 (by decide) rfl ?_
        refine x_lv (lv' := [some (.ref 1000), some (.int (nI i)), some (.int (nI n)), none]) rfl ?_
        refine x_aload_n dX8_film_36 rfl ?_
        refine x_aload_n dX8_film_37 rfl ?_
        refine x_rget f_X8_320 R4 rfl dX8_film_38 ?_
        refine x_topi (y := nI ((dgS y n))) g9 ?_
        refine x_callV m_X8_sitsBy l_X8_368 (r_sitsBy R4 (show a4 13 = nI n from (A4 13 (by omega)).trans c13) hn7) rfl R4.2.1 (by omega) rfl rfl (Nat.le_of_ble_eq_true rfl) ⟨Nat.le_refl _, Nat.le_refl _⟩ dX8_film_41 (fun r10 s10 q10 => ?_)
        obtain ⟨rfl, b10, R10, B10, e10⟩ := q10
        refine x_stk (st' := []) rfl ?_
        refine x_aload_n dX8_film_44 rfl ?_
        refine x_iload_n dX8_film_45 rfl ?_
        refine x_iconst (v := nI 0) dX8_film_46 (by decide) ?_
        refine x_iload_n dX8_film_47 rfl ?_
        refine x_callV m_X8_sheet l_X8_384 (r_sheet R10 (hS.fr ((B10 13 (by decide)).trans (B4 13 (by decide) (by decide))) ((B10 14 (by decide)).trans (B4 14 (by decide) (by decide))) ((B10 15 (by decide)).trans (B4 15 (by decide) (by decide))) ((B10 16 (by decide)).trans (B4 16 (by decide) (by decide)))) hG hi4 (so := nI 0) (by decide) (sz := n) (by omega)) rfl R10.2.1 (by omega) rfl rfl (Nat.le_of_ble_eq_true rfl) ⟨Nat.le_refl _, Nat.le_refl _⟩ dX8_film_48 (fun r11 s11 q11 => ?_)
        obtain ⟨rfl, b11, R11, F11, S11⟩ := q11
        refine x_stk (st' := [.int (nI 1)]) rfl ?_
        refine x_pop dX8_film_51 rfl ?_
        refine x_iconst (v := nI 0) dX8_film_52 (by decide) ?_
        refine x_istore_n dX8_film_53 (by decide) rfl ?_
        refine x_lv (lv' := [some (.ref 1000), some (.int (nI i)), some (.int (nI n)), some (.int (nI 0))]) rfl ?_
        have hl7 : (b4 7).length = 7 := R4.rlen (j := 7) (by decide) (m := 7) rfl
        refine lr_film (b := b11) hG hi4 hn7 (y := y) (fun j hj => by rw [F11 7 (by decide) (by decide) (by decide) (by decide), e10]; exact (sbL_get y7 n _ hn7 (by rw [hl7]; omega)).1 j hj) S11 (Nat.zero_le d) ?_ n 0 b11 _ R11 Fb.rf (fun _ _ => rfl) (fun j hj => absurd hj (by omega)) (by omega)
        intro b8 σ8 R8 B8 S8
        refine x_iload_n dX8_film_82 rfl ?_
        exact x_iret ⟨Nat.le_refl _, Nat.le_refl _⟩ rfl dX8_film_83 ⟨rfl, _, _, b8, R8, (A4.up (by omega)), fun j h7 h8 h13 h14 h15 h16 => (B8 j h16).trans ((F11 j h13 h14 h15 h16).trans ((B10 j h7).trans (B4 j h7 h8))), S8⟩
  · exact absurd (by omega) hv2
set_option maxHeartbeats 4000000 in
theorem r_film_b {σ0 σ : ZS} {a : Nat → Int32} {tw : Int64} {b : Nat → List Int32} {rr n : Nat} {K N : List Nat} {W : List Int32} {D : List Nat} {ru : Nat} {L S : List Nat} {lf jf : Nat} (hR : RM σ0 σ a tw b) (hW : BW a b rr n K N W D (-1) ru L S lf jf) {x : Int32} (hx : ¬ (0 ≤ x.toInt ∧ x.toInt ≤ 3)) : Cn 3 M_X8_film 0 0 [.ref 1000, .int x] σ (fun r9 σ' => r9 = some (.int (-2)) ∧ σ' = σ) := by
  obtain ⟨hC, hT⟩ := id hW
  obtain ⟨c7, hrr, c13, hn7, c14, cK, cN, cW, cD, hN7, hW7, hD49, hK5, hN9, hD999⟩ := id hC
  refine Cn.intro (lv0 := [some (.ref 1000), some (.int x), none, none]) rfl (Nat.le_of_ble_eq_true rfl) rfl (fun d hd => ?_)
  refine x_iload_n dX8_film_0 rfl ?_
  refine x_callS m_X8_isSheet l_X8_299 (r_isSheet rfl) (by omega) rfl rfl (Nat.le_of_ble_eq_true rfl) ⟨Nat.le_refl _, Nat.le_refl _⟩ dX8_film_1 (fun r1 s1 q1 => ?_)
  obtain ⟨rfl, eq1⟩ := q1
  obtain rfl := eq1.symm
  refine x_stk (st' := [.int (bI (decide (0 ≤ x.toInt ∧ x.toInt ≤ 3)))]) rfl ?_
  refine x_ifP_ne (P := 0 ≤ x.toInt ∧ x.toInt ≤ 3) inferInstance (tgt := 10) dX8_film_4 (by decide) (fun hv2 => ?_) (fun hv2 => ?_)
  · exact absurd hv2 hx
  · refine x_bipush (v := (-2)) dX8_film_7 (by decide) ?_
    exact x_iret ⟨Nat.le_refl _, Nat.le_refl _⟩ rfl dX8_film_9 ⟨rfl, rfl⟩
