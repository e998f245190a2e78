/-! the reference's reader: words -/
def FrA (a a' : Nat → Int32) : Prop := ∀ k, ¬ (23 ≤ k ∧ k ≤ 29) → a' k = a k
theorem FrA.rf {a : Nat → Int32} : FrA a a := fun _ _ => rfl
theorem FrA.tr {a a' a'' : Nat → Int32} (h : FrA a a') (h' : FrA a' a'') : FrA a a'' := fun k hk => (h' k hk).trans (h k hk)
theorem FrA.up {a a' : Nat → Int32} (h : FrA a a') {j : Nat} {v : Int32} (hj : 23 ≤ j ∧ j ≤ 29) : FrA a (up a' j v) := fun k hk => (up_ne a' v (fun q => hk (by rw [q]; exact hj))).trans (h k hk)
def FrH (a a' : Nat → Int32) : Prop := ∀ k, k ≠ 23 → a' k = a k
theorem FrH.rf {a : Nat → Int32} : FrH a a := fun _ _ => rfl
theorem FrH.up {a a' : Nat → Int32} (h : FrH a a') {v : Int32} : FrH a (up a' 23 v) := fun k hk => (up_ne a' v hk).trans (h k hk)
theorem FrH.A {a a' : Nat → Int32} (h : FrH a a') : FrA a a' := fun k hk => h k (fun q => hk (by rw [q]; decide))
def FrN (a a' : Nat → Int32) : Prop := ∀ k, ¬ (23 ≤ k ∧ k ≤ 26) → a' k = a k
theorem FrN.tr {a a' a'' : Nat → Int32} (h : FrN a a') (h' : FrN a' a'') : FrN a a'' := fun k hk => (h' k hk).trans (h k hk)
theorem FrN.up {a a' : Nat → Int32} (h : FrN a a') {j : Nat} {v : Int32} (hj : 23 ≤ j ∧ j ≤ 26) : FrN a (up a' j v) := fun k hk => (up_ne a' v (fun q => hk (by rw [q]; exact hj))).trans (h k hk)
theorem FrN.A {a a' : Nat → Int32} (h : FrN a a') : FrA a a' := fun k hk => h k (fun q => hk (by omega))
theorem FrH.N {a a' : Nat → Int32} (h : FrH a a') : FrN a a' := fun k hk => h k (fun q => hk (by rw [q]; decide))
def RTx (a : Nat → Int32) (b : Nat → List Int32) (L : List Nat) : Prop := ∃ f0 : Nat, a 21 = nI f0 ∧ a 22 = nI L.length ∧ L.length ≤ 160 ∧ f0 + 160 ≤ 960 ∧ (∀ i, i < L.length → (b 0).getD (f0 + i) 0 = nI (L.getD i 0)) ∧ (∀ i, L.getD i 0 ≤ 255)
theorem RTx.fr {a a' : Nat → Int32} {b : Nat → List Int32} {L : List Nat} (h : RTx a b L) (hA : FrA a a') : RTx a' b L := by
  obtain ⟨f0, h1, h2, h3⟩ := h
  exact ⟨f0, (hA 21 (by omega)).trans h1, (hA 22 (by omega)).trans h2, h3⟩
/-- the reference's kinds of tokens -/
def rK (L : List Nat) (p : Nat) : Nat :=
  if L.length ≤ lexP L p then 0
  else if isLt (L.getD (lexP L p) 0) = true then 1
  else if isDg (L.getD (lexP L p) 0) = true then (if 4 < skip isDg L (lexP L p) - lexP L p then 4 else 2)
  else if isSg (L.getD (lexP L p) 0) = true then 3 else 4
def RTk (a : Nat → Int32) (tw : Int64) (L : List Nat) (p : Nat) : Prop := a 25 = nI (lexP L p) ∧ a 24 = nI (rK L p) ∧ (rK L p ≠ 4 → a 23 = nI (tkN L p)) ∧ (rK L p = 2 → tw.toInt = ((tkV L p : Nat) : Int)) ∧ (rK L p = 3 → tw.toInt = ((L.getD (lexP L p) 0 : Nat) : Int))
theorem rK_le (L : List Nat) (p : Nat) : rK L p ≤ 4 := by
  unfold rK
  repeat' split
  all_goals omega
def byI (L : List Nat) (k : Nat) : Int32 := if k < L.length then nI (L.getD k 0) else -1
set_option maxHeartbeats 4000000 in
theorem r_byteAt {σ0 σ : ZS} {a : Nat → Int32} {tw : Int64} {b : Nat → List Int32} {L : List Nat} (hR : RM σ0 σ a tw b) (hx : RTx a b L) {k : Nat} (hk : k ≤ 1000) : Cn 0 M_X8_byteAt 0 0 [.ref 1000, .int (nI k)] σ (fun r9 σ' => r9 = some (.int (byI L k)) ∧ σ' = σ) := by
  obtain ⟨f0, hx1, hx2, hx3, hx4, hx5, hx6⟩ := id hx
  refine Cn.intro (lv0 := [some (.ref 1000), some (.int (nI k))]) rfl (Nat.le_of_ble_eq_true rfl) rfl (fun d hd => ?_)
  refine x_iload_n dX8_byteAt_0 rfl ?_
  refine x_aload_n dX8_byteAt_1 rfl ?_
  refine x_rget (v := .int (nI L.length)) f_X8_141 hR (rg hx2) dX8_byteAt_2 ?_
  refine x_icmpN_ge (tgt := 22) dX8_byteAt_5 (by decide) (by omega) (by omega) (fun hv1 => ?_) (fun hv1 => ?_)
  · refine x_iconst (v := (-1)) dX8_byteAt_22 (by decide) ?_
    exact x_iret ⟨Nat.le_refl _, Nat.le_refl _⟩ rfl dX8_byteAt_23 ⟨by rw [byI, if_neg (by omega)], rfl⟩
  · refine x_aload_n dX8_byteAt_8 rfl ?_
    refine x_rget f_X8_13 hR rfl dX8_byteAt_9 ?_
    refine x_aload_n dX8_byteAt_12 rfl ?_
    refine x_rget (v := .int (nI f0)) f_X8_144 hR (rg hx1) dX8_byteAt_13 ?_
    refine x_iload_n dX8_byteAt_16 rfl ?_
    refine x_iaddN dX8_byteAt_17 ?_
    refine x_rald (j := 0) (n := f0 + k) hR rfl (by decide) rfl rfl (rlt hR (m := 960) (by decide) rfl (by omega)) dX8_byteAt_18 ?_
    refine x_goto (tgt := 23) dX8_byteAt_19 (by decide) ?_
    exact x_iret ⟨Nat.le_refl _, Nat.le_refl _⟩ rfl dX8_byteAt_23 ⟨by rw [byI, if_pos (by omega), hx5 k (by omega)], rfl⟩
set_option maxHeartbeats 4000000 in
theorem lr_blank {Q : Option Value → ZS → Prop} {σ0 : ZS} {a0 : Nat → Int32} {tw : Int64} {b : Nat → List Int32} {L : List Nat} {p0 : Nat} {d : Nat} (hd : 1 ≤ d) (hout : ∀ (a : Nat → Int32) (σ : ZS), RM σ0 σ a tw b → RTx a b L → a 23 = nI (lexP L p0) → FrH a0 a → X M_X8_next d 0 0 Q 0 0 39 [some (.ref 1000), none, none] [] σ) : ∀ (q p : Nat) (a : Nat → Int32) (σ : ZS) (hR : RM σ0 σ a tw b) (hx : RTx a b L) (c23 : a 23 = nI p) (hA : FrH a0 a), p + q = L.length → lexP L p0 = skip isBl L p → p ≤ L.length → X M_X8_next d 0 0 (Q) 0 0 0 [some (.ref 1000), none, none] [] σ := by
  intro q
  induction q with
  | zero =>
    intro p a σ hR hx c23 hA hpq hsk hk
    obtain ⟨f0, hx1, hx2, hx3, hx4, hx5, hx6⟩ := id hx
    refine x_aload_n dX8_next_0 rfl ?_
    refine x_aload_n dX8_next_1 rfl ?_
    refine x_rget (v := .int (nI p)) f_X8_147 hR (rg c23) dX8_next_2 ?_
    refine x_callV m_X8_byteAt l_X8_150 (r_byteAt hR hx (by omega)) rfl hR.2.1 (by omega) rfl rfl (Nat.le_of_ble_eq_true rfl) ⟨Nat.le_refl _, Nat.le_refl _⟩ dX8_next_5 (fun r1 s1 q1 => ?_)
    obtain ⟨rfl, eq1⟩ := q1
    obtain rfl := eq1.symm
    refine x_stk (st' := [.int ((byI L p))]) rfl ?_
    by_cases hin : p < L.length
    · have hb9 := hx6 p
      refine x_topi (y := nI (L.getD p 0)) (by rw [byI, if_pos (by omega)]) ?_
      refine x_bipush (v := nI 32) dX8_next_8 (by decide) ?_
      refine x_icmpN_eq (tgt := 26) dX8_next_10 (by decide) (by omega) (by omega) (fun hv2 => ?_) (fun hv2 => ?_)
      · refine x_aload_n dX8_next_26 rfl ?_
        refine x_dup dX8_next_27 rfl ?_
        refine x_rget (v := .int (nI p)) f_X8_147 hR (rg c23) dX8_next_28 ?_
        refine x_iconst (v := nI 1) dX8_next_31 (by decide) ?_
        refine x_iaddN dX8_next_32 ?_
        refine x_rput (up a 23 (nI (p + 1))) tw f_X8_147 hR (by decide) rfl (fun c => ⟨rfl, rfl⟩) dX8_next_33 (fun sw3 Rw3 => ?_)
        refine x_goto (tgt := 0) dX8_next_36 (by decide) ?_
        exfalso
        omega
      · refine x_aload_n dX8_next_13 rfl ?_
        refine x_aload_n dX8_next_14 rfl ?_
        refine x_rget (v := .int (nI p)) f_X8_147 hR (rg c23) dX8_next_15 ?_
        refine x_callV m_X8_byteAt l_X8_150 (r_byteAt hR hx (by omega)) rfl hR.2.1 (by omega) rfl rfl (Nat.le_of_ble_eq_true rfl) ⟨Nat.le_refl _, Nat.le_refl _⟩ dX8_next_18 (fun r4 s4 q4 => ?_)
        obtain ⟨rfl, eq4⟩ := q4
        obtain rfl := eq4.symm
        refine x_stk (st' := [.int ((byI L p))]) rfl ?_
        refine x_topi (y := nI (L.getD p 0)) (by rw [byI, if_pos (by omega)]) ?_
        refine x_bipush (v := nI 10) dX8_next_21 (by decide) ?_
        refine x_icmpN_ne (tgt := 39) dX8_next_23 (by decide) (by omega) (by omega) (fun hv5 => ?_) (fun hv5 => ?_)
        · exact hout a σ hR hx (by rw [c23, hsk, skip_f (decide_eq_false (by omega))]) hA
        · refine x_aload_n dX8_next_26 rfl ?_
          refine x_dup dX8_next_27 rfl ?_
          refine x_rget (v := .int (nI p)) f_X8_147 hR (rg c23) dX8_next_28 ?_
          refine x_iconst (v := nI 1) dX8_next_31 (by decide) ?_
          refine x_iaddN dX8_next_32 ?_
          refine x_rput (up a 23 (nI (p + 1))) tw f_X8_147 hR (by decide) rfl (fun c => ⟨rfl, rfl⟩) dX8_next_33 (fun sw6 Rw6 => ?_)
          refine x_goto (tgt := 0) dX8_next_36 (by decide) ?_
          exfalso
          omega
    · refine x_topi (y := -1) (by rw [byI, if_neg (by omega)]) ?_
      refine x_bipush (v := nI 32) dX8_next_8 (by decide) ?_
      refine x_icmpT_eq (p := (-1)) (q := ((32 : Nat) : Int)) (tgt := 26) (by decide) (nI_toInt (by omega)) dX8_next_10 (by decide) (fun hv7 => ?_) (fun hv7 => ?_)
      · exact absurd hv7 (by omega)
      · refine x_aload_n dX8_next_13 rfl ?_
        refine x_aload_n dX8_next_14 rfl ?_
        refine x_rget (v := .int (nI p)) f_X8_147 hR (rg c23) dX8_next_15 ?_
        refine x_callV m_X8_byteAt l_X8_150 (r_byteAt hR hx (by omega)) rfl hR.2.1 (by omega) rfl rfl (Nat.le_of_ble_eq_true rfl) ⟨Nat.le_refl _, Nat.le_refl _⟩ dX8_next_18 (fun r8 s8 q8 => ?_)
        obtain ⟨rfl, eq8⟩ := q8
        obtain rfl := eq8.symm
        refine x_stk (st' := [.int ((byI L p))]) rfl ?_
        refine x_topi (y := -1) (by rw [byI, if_neg (by omega)]) ?_
        refine x_bipush (v := nI 10) dX8_next_21 (by decide) ?_
        refine x_icmpT_ne (p := (-1)) (q := ((10 : Nat) : Int)) (tgt := 39) (by decide) (nI_toInt (by omega)) dX8_next_23 (by decide) (fun hv9 => ?_) (fun hv9 => ?_)
        · exact hout a σ hR hx (by rw [c23, hsk, skip_e (by omega)]) hA
        · exact absurd hv9 (by omega)
  | succ q ih =>
    intro p a σ hR hx c23 hA hpq hsk hk
    obtain ⟨f0, hx1, hx2, hx3, hx4, hx5, hx6⟩ := id hx
    refine x_aload_n dX8_next_0 rfl ?_
    refine x_aload_n dX8_next_1 rfl ?_
    refine x_rget (v := .int (nI p)) f_X8_147 hR (rg c23) dX8_next_2 ?_
    refine x_callV m_X8_byteAt l_X8_150 (r_byteAt hR hx (by omega)) rfl hR.2.1 (by omega) rfl rfl (Nat.le_of_ble_eq_true rfl) ⟨Nat.le_refl _, Nat.le_refl _⟩ dX8_next_5 (fun r1 s1 q1 => ?_)
    obtain ⟨rfl, eq1⟩ := q1
    obtain rfl := eq1.symm
    refine x_stk (st' := [.int ((byI L p))]) rfl ?_
    by_cases hin : p < L.length
    · have hb9 := hx6 p
      refine x_topi (y := nI (L.getD p 0)) (by rw [byI, if_pos (by omega)]) ?_
      refine x_bipush (v := nI 32) dX8_next_8 (by decide) ?_
      refine x_icmpN_eq (tgt := 26) dX8_next_10 (by decide) (by omega) (by omega) (fun hv2 => ?_) (fun hv2 => ?_)
      · refine x_aload_n dX8_next_26 rfl ?_
        refine x_dup dX8_next_27 rfl ?_
        refine x_rget (v := .int (nI p)) f_X8_147 hR (rg c23) dX8_next_28 ?_
        refine x_iconst (v := nI 1) dX8_next_31 (by decide) ?_
        refine x_iaddN dX8_next_32 ?_
        refine x_rput (up a 23 (nI (p + 1))) tw f_X8_147 hR (by decide) rfl (fun c => ⟨rfl, rfl⟩) dX8_next_33 (fun sw3 Rw3 => ?_)
        refine x_goto (tgt := 0) dX8_next_36 (by decide) ?_
        exact ih (p + 1) _ sw3 Rw3 hx rfl hA.up (by omega) (by rw [hsk, skip_t (by omega) (decide_eq_true (by omega))]) (by omega)
      · refine x_aload_n dX8_next_13 rfl ?_
        refine x_aload_n dX8_next_14 rfl ?_
        refine x_rget (v := .int (nI p)) f_X8_147 hR (rg c23) dX8_next_15 ?_
        refine x_callV m_X8_byteAt l_X8_150 (r_byteAt hR hx (by omega)) rfl hR.2.1 (by omega) rfl rfl (Nat.le_of_ble_eq_true rfl) ⟨Nat.le_refl _, Nat.le_refl _⟩ dX8_next_18 (fun r4 s4 q4 => ?_)
        obtain ⟨rfl, eq4⟩ := q4
        obtain rfl := eq4.symm
        refine x_stk (st' := [.int ((byI L p))]) rfl ?_
        refine x_topi (y := nI (L.getD p 0)) (by rw [byI, if_pos (by omega)]) ?_
        refine x_bipush (v := nI 10) dX8_next_21 (by decide) ?_
        refine x_icmpN_ne (tgt := 39) dX8_next_23 (by decide) (by omega) (by omega) (fun hv5 => ?_) (fun hv5 => ?_)
        · exact hout a σ hR hx (by rw [c23, hsk, skip_f (decide_eq_false (by omega))]) hA
        · refine x_aload_n dX8_next_26 rfl ?_
          refine x_dup dX8_next_27 rfl ?_
          refine x_rget (v := .int (nI p)) f_X8_147 hR (rg c23) dX8_next_28 ?_
          refine x_iconst (v := nI 1) dX8_next_31 (by decide) ?_
          refine x_iaddN dX8_next_32 ?_
          refine x_rput (up a 23 (nI (p + 1))) tw f_X8_147 hR (by decide) rfl (fun c => ⟨rfl, rfl⟩) dX8_next_33 (fun sw6 Rw6 => ?_)
          refine x_goto (tgt := 0) dX8_next_36 (by decide) ?_
          exact ih (p + 1) _ sw6 Rw6 hx rfl hA.up (by omega) (by rw [hsk, skip_t (by omega) (decide_eq_true (by omega))]) (by omega)
    · refine x_topi (y := -1) (by rw [byI, if_neg (by omega)]) ?_
      refine x_bipush (v := nI 32) dX8_next_8 (by decide) ?_
      refine x_icmpT_eq (p := (-1)) (q := ((32 : Nat) : Int)) (tgt := 26) (by decide) (nI_toInt (by omega)) dX8_next_10 (by decide) (fun hv7 => ?_) (fun hv7 => ?_)
      · exact absurd hv7 (by omega)
      · refine x_aload_n dX8_next_13 rfl ?_
        refine x_aload_n dX8_next_14 rfl ?_
        refine x_rget (v := .int (nI p)) f_X8_147 hR (rg c23) dX8_next_15 ?_
        refine x_callV m_X8_byteAt l_X8_150 (r_byteAt hR hx (by omega)) rfl hR.2.1 (by omega) rfl rfl (Nat.le_of_ble_eq_true rfl) ⟨Nat.le_refl _, Nat.le_refl _⟩ dX8_next_18 (fun r8 s8 q8 => ?_)
        obtain ⟨rfl, eq8⟩ := q8
        obtain rfl := eq8.symm
        refine x_stk (st' := [.int ((byI L p))]) rfl ?_
        refine x_topi (y := -1) (by rw [byI, if_neg (by omega)]) ?_
        refine x_bipush (v := nI 10) dX8_next_21 (by decide) ?_
        refine x_icmpT_ne (p := (-1)) (q := ((10 : Nat) : Int)) (tgt := 39) (by decide) (nI_toInt (by omega)) dX8_next_23 (by decide) (fun hv9 => ?_) (fun hv9 => ?_)
        · exact hout a σ hR hx (by rw [c23, hsk, skip_e (by omega)]) hA
        · exact absurd hv9 (by omega)
set_option maxHeartbeats 4000000 in
theorem lr_letters {Q : Option Value → ZS → Prop} {σ0 : ZS} {a0 : Nat → Int32} {tw : Int64} {b : Nat → List Int32} {L : List Nat} {p0 : Nat} {c0 : Int32} {d : Nat} (hd : 1 ≤ d) (hout : ∀ (a : Nat → Int32) (σ : ZS), RM σ0 σ a tw b → RTx a b L → a 23 = nI (skip isLt L p0) → FrH a0 a → X M_X8_next d 0 0 Q 0 0 321 [some (.ref 1000), some (.int c0), none] [] σ) : ∀ (q p : Nat) (a : Nat → Int32) (σ : ZS) (hR : RM σ0 σ a tw b) (hx : RTx a b L) (c23 : a 23 = nI p) (hA : FrH a0 a), p + q = L.length → skip isLt L p0 = skip isLt L p → p ≤ L.length → X M_X8_next d 0 0 (Q) 0 0 100 [some (.ref 1000), some (.int c0), none] [] σ := by
  intro q
  induction q with
  | zero =>
    intro p a σ hR hx c23 hA hpq hsk hk
    obtain ⟨f0, hx1, hx2, hx3, hx4, hx5, hx6⟩ := id hx
    refine x_aload_n dX8_next_100 rfl ?_
    refine x_aload_n dX8_next_101 rfl ?_
    refine x_rget (v := .int (nI p)) f_X8_147 hR (rg c23) dX8_next_102 ?_
    refine x_callV m_X8_byteAt l_X8_150 (r_byteAt hR hx (by omega)) rfl hR.2.1 (by omega) rfl rfl (Nat.le_of_ble_eq_true rfl) ⟨Nat.le_refl _, Nat.le_refl _⟩ dX8_next_105 (fun r1 s1 q1 => ?_)
    obtain ⟨rfl, eq1⟩ := q1
    obtain rfl := eq1.symm
    refine x_stk (st' := [.int ((byI L p))]) rfl ?_
    by_cases hin : p < L.length
    · have hb9 := hx6 p
      refine x_topi (y := nI (L.getD p 0)) (by rw [byI, if_pos (by omega)]) ?_
      refine x_i2l dX8_next_108 ?_
      refine x_ldc2 (v := (97)) cl_X8_159 dX8_next_109 ?_
      refine x_ldc2 (v := (122)) cl_X8_161 dX8_next_112 ?_
      refine x_callS m_X8_in l_X8_85 (r_in (p := (((L.getD p 0) : Nat) : Int)) (q := (97)) (r := (122)) (tL (nI_toInt (by omega))) (by decide) (by decide)) (by omega) rfl rfl (Nat.le_of_ble_eq_true rfl) ⟨Nat.le_refl _, Nat.le_refl _⟩ dX8_next_115 (fun r2 s2 q2 => ?_)
      obtain ⟨rfl, eq2⟩ := q2
      obtain rfl := eq2.symm
      refine x_stk (st' := [.int (bI (decide ((97) ≤ (((L.getD p 0) : Nat) : Int) ∧ (((L.getD p 0) : Nat) : Int) ≤ (122))))]) rfl ?_
      refine x_ifP_eq (P := (97) ≤ (((L.getD p 0) : Nat) : Int) ∧ (((L.getD p 0) : Nat) : Int) ≤ (122)) inferInstance (tgt := 321) dX8_next_118 (by decide) (fun hv3 => ?_) (fun hv3 => ?_)
      · exact hout a σ hR hx (by rw [c23, hsk, skip_f (decide_eq_false (by omega))]) hA
      · refine x_aload_n dX8_next_121 rfl ?_
        refine x_dup dX8_next_122 rfl ?_
        refine x_rget (v := .int (nI p)) f_X8_147 hR (rg c23) dX8_next_123 ?_
        refine x_iconst (v := nI 1) dX8_next_126 (by decide) ?_
        refine x_iaddN dX8_next_127 ?_
        refine x_rput (up a 23 (nI (p + 1))) tw f_X8_147 hR (by decide) rfl (fun c => ⟨rfl, rfl⟩) dX8_next_128 (fun sw4 Rw4 => ?_)
        refine x_goto (tgt := 100) dX8_next_131 (by decide) ?_
        exfalso
        omega
    · refine x_topi (y := -1) (by rw [byI, if_neg (by omega)]) ?_
      refine x_i2l dX8_next_108 ?_
      refine x_ldc2 (v := (97)) cl_X8_159 dX8_next_109 ?_
      refine x_ldc2 (v := (122)) cl_X8_161 dX8_next_112 ?_
      refine x_callS m_X8_in l_X8_85 (r_in (p := (-1)) (q := (97)) (r := (122)) (tL (by decide)) (by decide) (by decide)) (by omega) rfl rfl (Nat.le_of_ble_eq_true rfl) ⟨Nat.le_refl _, Nat.le_refl _⟩ dX8_next_115 (fun r5 s5 q5 => ?_)
      obtain ⟨rfl, eq5⟩ := q5
      obtain rfl := eq5.symm
      refine x_stk (st' := [.int (bI (decide ((97) ≤ (-1) ∧ (-1) ≤ (122))))]) rfl ?_
      refine x_ifP_eq (P := (97) ≤ (-1) ∧ (-1) ≤ (122)) inferInstance (tgt := 321) dX8_next_118 (by decide) (fun hv6 => ?_) (fun hv6 => ?_)
      · exact hout a σ hR hx (by rw [c23, hsk, skip_e (by omega)]) hA
      · refine x_aload_n dX8_next_121 rfl ?_
        refine x_dup dX8_next_122 rfl ?_
        refine x_rget (v := .int (nI p)) f_X8_147 hR (rg c23) dX8_next_123 ?_
        refine x_iconst (v := nI 1) dX8_next_126 (by decide) ?_
        refine x_iaddN dX8_next_127 ?_
        refine x_rput (up a 23 (nI (p + 1))) tw f_X8_147 hR (by decide) rfl (fun c => ⟨rfl, rfl⟩) dX8_next_128 (fun sw7 Rw7 => ?_)
        refine x_goto (tgt := 100) dX8_next_131 (by decide) ?_
        exfalso
        omega
  | succ q ih =>
    intro p a σ hR hx c23 hA hpq hsk hk
    obtain ⟨f0, hx1, hx2, hx3, hx4, hx5, hx6⟩ := id hx
    refine x_aload_n dX8_next_100 rfl ?_
    refine x_aload_n dX8_next_101 rfl ?_
    refine x_rget (v := .int (nI p)) f_X8_147 hR (rg c23) dX8_next_102 ?_
    refine x_callV m_X8_byteAt l_X8_150 (r_byteAt hR hx (by omega)) rfl hR.2.1 (by omega) rfl rfl (Nat.le_of_ble_eq_true rfl) ⟨Nat.le_refl _, Nat.le_refl _⟩ dX8_next_105 (fun r1 s1 q1 => ?_)
    obtain ⟨rfl, eq1⟩ := q1
    obtain rfl := eq1.symm
    refine x_stk (st' := [.int ((byI L p))]) rfl ?_
    by_cases hin : p < L.length
    · have hb9 := hx6 p
      refine x_topi (y := nI (L.getD p 0)) (by rw [byI, if_pos (by omega)]) ?_
      refine x_i2l dX8_next_108 ?_
      refine x_ldc2 (v := (97)) cl_X8_159 dX8_next_109 ?_
      refine x_ldc2 (v := (122)) cl_X8_161 dX8_next_112 ?_
      refine x_callS m_X8_in l_X8_85 (r_in (p := (((L.getD p 0) : Nat) : Int)) (q := (97)) (r := (122)) (tL (nI_toInt (by omega))) (by decide) (by decide)) (by omega) rfl rfl (Nat.le_of_ble_eq_true rfl) ⟨Nat.le_refl _, Nat.le_refl _⟩ dX8_next_115 (fun r2 s2 q2 => ?_)
      obtain ⟨rfl, eq2⟩ := q2
      obtain rfl := eq2.symm
      refine x_stk (st' := [.int (bI (decide ((97) ≤ (((L.getD p 0) : Nat) : Int) ∧ (((L.getD p 0) : Nat) : Int) ≤ (122))))]) rfl ?_
      refine x_ifP_eq (P := (97) ≤ (((L.getD p 0) : Nat) : Int) ∧ (((L.getD p 0) : Nat) : Int) ≤ (122)) inferInstance (tgt := 321) dX8_next_118 (by decide) (fun hv3 => ?_) (fun hv3 => ?_)
      · exact hout a σ hR hx (by rw [c23, hsk, skip_f (decide_eq_false (by omega))]) hA
      · refine x_aload_n dX8_next_121 rfl ?_
        refine x_dup dX8_next_122 rfl ?_
        refine x_rget (v := .int (nI p)) f_X8_147 hR (rg c23) dX8_next_123 ?_
        refine x_iconst (v := nI 1) dX8_next_126 (by decide) ?_
        refine x_iaddN dX8_next_127 ?_
        refine x_rput (up a 23 (nI (p + 1))) tw f_X8_147 hR (by decide) rfl (fun c => ⟨rfl, rfl⟩) dX8_next_128 (fun sw4 Rw4 => ?_)
        refine x_goto (tgt := 100) dX8_next_131 (by decide) ?_
        exact ih (p + 1) _ sw4 Rw4 hx rfl hA.up (by omega) (by rw [hsk, skip_t (by omega) (decide_eq_true (by omega))]) (by omega)
    · refine x_topi (y := -1) (by rw [byI, if_neg (by omega)]) ?_
      refine x_i2l dX8_next_108 ?_
      refine x_ldc2 (v := (97)) cl_X8_159 dX8_next_109 ?_
      refine x_ldc2 (v := (122)) cl_X8_161 dX8_next_112 ?_
      refine x_callS m_X8_in l_X8_85 (r_in (p := (-1)) (q := (97)) (r := (122)) (tL (by decide)) (by decide) (by decide)) (by omega) rfl rfl (Nat.le_of_ble_eq_true rfl) ⟨Nat.le_refl _, Nat.le_refl _⟩ dX8_next_115 (fun r5 s5 q5 => ?_)
      obtain ⟨rfl, eq5⟩ := q5
      obtain rfl := eq5.symm
      refine x_stk (st' := [.int (bI (decide ((97) ≤ (-1) ∧ (-1) ≤ (122))))]) rfl ?_
      refine x_ifP_eq (P := (97) ≤ (-1) ∧ (-1) ≤ (122)) inferInstance (tgt := 321) dX8_next_118 (by decide) (fun hv6 => ?_) (fun hv6 => ?_)
      · exact hout a σ hR hx (by rw [c23, hsk, skip_e (by omega)]) hA
      · refine x_aload_n dX8_next_121 rfl ?_
        refine x_dup dX8_next_122 rfl ?_
        refine x_rget (v := .int (nI p)) f_X8_147 hR (rg c23) dX8_next_123 ?_
        refine x_iconst (v := nI 1) dX8_next_126 (by decide) ?_
        refine x_iaddN dX8_next_127 ?_
        refine x_rput (up a 23 (nI (p + 1))) tw f_X8_147 hR (by decide) rfl (fun c => ⟨rfl, rfl⟩) dX8_next_128 (fun sw7 Rw7 => ?_)
        refine x_goto (tgt := 100) dX8_next_131 (by decide) ?_
        exact ih (p + 1) _ sw7 Rw7 hx rfl hA.up (by omega) (by rw [hsk, skip_t (by omega) (decide_eq_true (by omega))]) (by omega)
