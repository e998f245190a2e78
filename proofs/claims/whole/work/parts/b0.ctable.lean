/-! the class: table, dine -/
theorem c_fwT {σ : ZS} {A m : Nat} {r : Bool} {wl : List (Option Nat)} {t0 : List Nat} (h : SeT σ A m r wl t0) (hm : m ≤ 7) (hw : W7 wl) : Cn 2 M_X5_firstWronged 0 0 [.ref 22] σ (fun r9 σ' => r9 = some (.int (oI (ffrom (fun s => !contB r m t0 wl s) m 0))) ∧ σ' = σ) := by
  obtain ⟨bw, jd, fd, en, t, B, Wo, Ho, h, h1, h2, h3⟩ := h
  have e := ffrom_cg (f := fun s => !contB r m t wl s) (g := fun s => !contB r m t0 wl s) m 0 (fun s _ hs => congrArg (fun z => !z) (contB_eqm h3 (by omega)))
  rw [← e]
  exact c_firstWronged h hm h1 hw
theorem c_joyT {σ : ZS} {p : Nat} {ro di : Int32} {n : Nat} {K N : List Nat} {Wt : List Int32} {ru ri si ki : Nat} {S : List Nat} {lf jf A m : Nat} {r : Bool} {wl : List (Option Nat)} {t0 D : List Nat} (h : SeT σ A m r wl t0) (hp : p = 1 ∨ p = 11) (hm : m ≤ 7) (hw : W7 wl) (hP : Pa σ p ro di (nI ru) n K N Wt D) (hM : MaW σ ru ri si ki S lf jf) : Cn 4 M_X5_joy 0 0 [.ref 22, .ref 16, .ref p] σ (fun r9 σ' => r9 = some (.int (sumI (jyI S jf K N Wt D t0 m) (prS r m))) ∧ MaW σ' ru ri si ki S lf jf ∧ Fr (fun i => i = 18 ∨ i = ki) σ σ') := by
  obtain ⟨bw, jd, fd, en, t, B, Wo, Ho, h, h1, h2, h3⟩ := h
  have hq := prS_le (r := r) (m := m)
  rw [← sumI_cg (f := jyI S jf K N Wt D t m) (g := jyI S jf K N Wt D t0 m) (prS r m) (fun s hs => jyI_eqm h3 (by omega))]
  exact c_joy hp hm h1 hw h hP hM
theorem c_holdT {σ : ZS} {p : Nat} {ro di : Int32} {n : Nat} {K N : List Nat} {Wt : List Int32} {ru ri si ki : Nat} {S : List Nat} {lf jf A m : Nat} {r : Bool} {wl : List (Option Nat)} {t0 D : List Nat} (h : SeT σ A m r wl t0) (hp : p = 1 ∨ p = 11) (hm : m ≤ 7) (hw : W7 wl) (hP : Pa σ p ro di (nI ru) n K N Wt D) (hM : MaW σ ru ri si ki S lf jf) : Cn 4 M_X5_hold 0 0 [.ref 22, .ref 16, .ref p] σ (fun r9 σ' => r9 = none ∧ Pa σ' p ro di (nI ru) n K N Wt (hdD S lf jf K N Wt t0 m (prS r m) D) ∧ MaW σ' ru ri si ki S lf jf ∧ Fr (fun i => i = 18 ∨ i = ki ∨ i = p + 4) σ σ') := by
  obtain ⟨bw, jd, fd, en, t, B, Wo, Ho, h, h1, h2, h3⟩ := h
  rw [← hdD_eqm (S := S) (lf := lf) (jf := jf) (K := K) (N := N) (W := Wt) (D := D) h3 (prS r m) prS_le]
  exact c_hold hp hm h1 hw h hP hM
theorem SeT.ok {σ : ZS} {A m : Nat} {r : Bool} {wl : List (Option Nat)} {t0 : List Nat} (h : SeT σ A m r wl t0) : ∃ (bw jd fd en : Int32), zg σ 22 = some (.inr (.inr (4, [.ref 23, .ref 24, .ref 25, .int bw, .int (nI A), .int (nI m), .int (bI r), .int jd, .int fd, .int en, .ref 26, .ref 27]))) := by
  obtain ⟨bw, jd, fd, en, t, B, Wo, Ho, h, -⟩ := h
  exact ⟨bw, jd, fd, en, h.1⟩
theorem SeJ.ok {σ : ZS} (h : SeJ σ) : ∃ (bw am sz rd jd fd en : Int32), zg σ 22 = some (.inr (.inr (4, [.ref 23, .ref 24, .ref 25, .int bw, .int am, .int sz, .int rd, .int jd, .int fd, .int en, .ref 26, .ref 27]))) := by
  obtain ⟨bw, am, sz, rd, jd, fd, en, t, B, Wi, Wo, Ho, h, -⟩ := h
  exact ⟨bw, am, sz, rd, jd, fd, en, h.1⟩
set_option maxHeartbeats 4000000 in
theorem c_table0 {σ : ZS} {tx ik : Int32} (k0 : zg σ 0 = some (.inr (.inr (6, [.ref 1, .ref 6, .ref 11, .ref 16, .ref 22, .ref 28, .ref 31, .int tx, .int ik])))) {rr dn ru n : Nat} {K N : List Nat} {W : List Int32} {D : List Nat} (h : Pa σ 1 (nI rr) (nI dn) (nI ru) n K N W D) (hr1 : rr ≤ 1) {ri si ki : Nat} {S : List Nat} {lf jf : Nat} (hM : MaW σ ru ri si ki S lf jf) (hJ : SeJ σ) {sh : Nat → SH} (hS : CSH σ sh) (hG : SHG sh) {i : Nat} (hi4 : i < 4) (hne : ¬ (sh i).1 = -1) {A : Nat} (hA9 : (tbS n (sh i).2.2 (sh i).2.1) = some A) (h11 : PaJ σ 11) : Cn 5 M_X7_table 0 0 [.ref 0, .int (nI i), .int (nI 0)] σ (fun r9 σ' => r9 = some (.int (tabV rr n K N W D S lf jf (sh i).2.1 (tOf (sh i).2.2 (sh i).2.1) 0)) ∧ SeJ σ' ∧ PaJ σ' 11 ∧ MaW σ' ru ri si ki S lf jf ∧ Fr (fun i => i = 18 ∨ i = ki ∨ (11 ≤ i ∧ i ≤ 15) ∨ (22 ≤ i ∧ i ≤ 27)) σ σ') := by
  obtain ⟨g31, hS2⟩ := id hS
  obtain ⟨s0, s1⟩ := hS2 i hi4
  obtain ⟨hso9, hz40, hl40⟩ := hG i hi4
  have hne' : ¬ ((sh i).1).toInt = -1 := fun q => hne (Int32.toInt_inj.mp q)
  obtain ⟨bw8, am8, sz8, rd8, jd8, fd8, en8, e0⟩ := hJ.ok
  obtain ⟨ro9, di9, ru9, n9, K9, N9, W9, D9, hT9⟩ := id h11
  have t0 := hT9.1
  have hn7 := h.2.2.2.2.2.1
  obtain ⟨hAn, hA2, hpA, -, -, hsA, hDi⟩ := tbS_ok hn7 hA9
  have m0 := hM.1
  have hloc := hM.2.2.2.2.2.1
  have hf7 : ∀ w, ffrom (fun s => !contB (decide (rr = 1)) (sh i).2.1 (tOf (sh i).2.2 (sh i).2.1) (wlS K N D n A (-1)) s) (sh i).2.1 0 = some w → w < 7 := fun w hw => by have := ffrom_lt _ _ hw; omega
  refine Cn.intro (lv0 := [some (.ref 0), some (.int (nI i)), some (.int (nI 0))]) rfl (Nat.le_of_ble_eq_true rfl) rfl (fun d hd => ?_)
  refine x_iload_n dX7_table_0 rfl ?_
  refine x_callS m_X7_isSheet l_X7_153 (c_isSheetP (p := ((i : Nat) : Int)) (nI_toInt (by omega))) (by omega) rfl rfl (Nat.le_of_ble_eq_true rfl) ⟨Nat.le_refl _, Nat.le_refl _⟩ dX7_table_1 (fun r1 s1 q1 => ?_)
  obtain ⟨rfl, eq1⟩ := q1
  obtain rfl := eq1.symm
  refine x_stk (st' := [.int (bI (decide (0 ≤ ((i : Nat) : Int) ∧ ((i : Nat) : Int) ≤ 3)))]) rfl ?_
  refine x_ifP_eq (P := 0 ≤ ((i : Nat) : Int) ∧ ((i : Nat) : Int) ≤ 3) inferInstance (tgt := 29) dX7_table_4 (by decide) (fun hv2 => ?_) (fun hv2 => ?_)
  · exact absurd hv2 (by omega)
  · refine x_iload_n dX7_table_7 rfl ?_
    refine x_iconst (v := nI 0) dX7_table_8 (by decide) ?_
    refine x_iconst (v := nI 2) dX7_table_9 (by decide) ?_
    refine x_callS m_X7_isWithin l_X7_72 (c_within (p := ((0 : Nat) : Int)) (q := ((0 : Nat) : Int)) (r := ((2 : Nat) : Int)) (nI_toInt (by omega)) (nI_toInt (by omega)) (nI_toInt (by omega))) (by omega) rfl rfl (Nat.le_of_ble_eq_true rfl) ⟨Nat.le_refl _, Nat.le_refl _⟩ dX7_table_10 (fun r3 s3 q3 => ?_)
    obtain ⟨rfl, eq3⟩ := q3
    obtain rfl := eq3.symm
    refine x_stk (st' := [.int (bI (decide (((0 : Nat) : Int) ≤ ((0 : Nat) : Int) ∧ ((0 : Nat) : Int) ≤ ((2 : Nat) : Int))))]) rfl ?_
    refine x_ifP_eq (P := ((0 : Nat) : Int) ≤ ((0 : Nat) : Int) ∧ ((0 : Nat) : Int) ≤ ((2 : Nat) : Int)) inferInstance (tgt := 29) dX7_table_13 (by decide) (fun hv4 => ?_) (fun hv4 => ?_)
    · exact absurd hv4 (by omega)
    · refine x_aload_n dX7_table_16 rfl ?_
      refine x_aload_n dX7_table_17 rfl ?_
      refine x_get (v := .ref 31) f_X7_45 k0 rfl dX7_table_18 ?_
      refine x_iload_n dX7_table_21 rfl ?_
      refine x_aald (Or.inr rfl) g31 rfl (sh_aa hi4) dX7_table_22 ?_
      refine x_callV m_X7_isTable l_X7_156 (c_isTable k0 h hr1 hl40 (by omega) (by omega) s0 s1 hz40 hJ hne') rfl k0 (by omega) rfl rfl (Nat.le_of_ble_eq_true rfl) ⟨Nat.le_refl _, Nat.le_refl _⟩ dX7_table_23 (fun r5 s5 q5 => ?_)
      obtain ⟨rfl, J5, T5, F5⟩ := q5
      obtain ⟨bw5, jd5, fd5, en5, e0_5⟩ := (T5 _ hA9).ok
      refine x_stk (st' := [.int (bI ((tbS n (sh i).2.2 (sh i).2.1).isSome))]) rfl ?_
      refine x_ifB_ne (tgt := 32) dX7_table_26 (by decide) (fun hv6 => ?_) (fun hv6 => ?_)
      · refine x_iload_n dX7_table_32 rfl ?_
        refine x_ifN_ne (tgt := 53) dX7_table_33 (by decide) (by omega) (fun hv7 => ?_) (fun hv7 => ?_)
        · exact absurd hv7 (by decide)
        · refine x_aload_n dX7_table_36 rfl ?_
          refine x_get (v := .ref 22) f_X7_32 (F5.at (by omega) k0) rfl dX7_table_37 ?_
          refine x_callV m_X5_firstWronged l_X7_161 (c_fwT (T5 _ hA9) (by omega) (wlS_ok hn7)) rfl e0_5 (by omega) rfl rfl (Nat.le_of_ble_eq_true rfl) ⟨Nat.le_refl _, Nat.le_refl _⟩ dX7_table_40 (fun r8 s8 q8 => ?_)
          obtain ⟨rfl, eq8⟩ := q8
          obtain rfl := eq8.symm
          refine x_stk (st' := [.int ((oI (ffrom (fun s => !contB (decide (rr = 1)) (sh i).2.1 (tOf (sh i).2.2 (sh i).2.1) (wlS K N D n A (-1)) s) (sh i).2.1 0)))]) rfl ?_
          refine x_iconst (v := (-1)) dX7_table_43 (by decide) ?_
          refine x_icmpT_ne (p := ((oI (ffrom (fun s => !contB (decide (rr = 1)) (sh i).2.1 (tOf (sh i).2.2 (sh i).2.1) (wlS K N D n A (-1)) s) (sh i).2.1 0))).toInt) (q := (-1)) (tgt := 51) rfl (by decide) dX7_table_44 (by decide) (fun hv9 => ?_) (fun hv9 => ?_)
          · refine x_iconst (v := nI 0) dX7_table_51 (by decide) ?_
            exact x_iret ⟨Nat.le_refl _, Nat.le_refl _⟩ rfl dX7_table_52 ⟨by rw [show (tabV rr n K N W D S lf jf (sh i).2.1 (tOf (sh i).2.2 (sh i).2.1) 0) = (if unlT rr n K N D (sh i).2.1 (tOf (sh i).2.2 (sh i).2.1) (-1) = none then nI 1 else nI 0) from rfl, unlT, hsA, if_neg (fun q => hv9 ((oI_m1 hf7).mpr q))], J5, (h11.fr F5 (by omega)), (hM.fr F5 (by omega)), (Fr.rf.tr (F5.mono (fun i hi => by omega)))⟩
          · refine x_iconst (v := nI 1) dX7_table_47 (by decide) ?_
            refine x_goto (tgt := 52) dX7_table_48 (by decide) ?_
            exact x_iret ⟨Nat.le_refl _, Nat.le_refl _⟩ rfl dX7_table_52 ⟨by rw [show (tabV rr n K N W D S lf jf (sh i).2.1 (tOf (sh i).2.2 (sh i).2.1) 0) = (if unlT rr n K N D (sh i).2.1 (tOf (sh i).2.2 (sh i).2.1) (-1) = none then nI 1 else nI 0) from rfl, unlT, hsA, if_pos ((oI_m1 hf7).mp hv9)], J5, (h11.fr F5 (by omega)), (hM.fr F5 (by omega)), (Fr.rf.tr (F5.mono (fun i hi => by omega)))⟩
      · exact absurd (hv6.symm.trans (congrArg Option.isSome hA9)) (fun z => Bool.noConfusion z)
set_option maxHeartbeats 4000000 in
theorem c_table1 {σ : ZS} {tx ik : Int32} (k0 : zg σ 0 = some (.inr (.inr (6, [.ref 1, .ref 6, .ref 11, .ref 16, .ref 22, .ref 28, .ref 31, .int tx, .int ik])))) {rr dn ru n : Nat} {K N : List Nat} {W : List Int32} {D : List Nat} (h : Pa σ 1 (nI rr) (nI dn) (nI ru) n K N W D) (hr1 : rr ≤ 1) {ri si ki : Nat} {S : List Nat} {lf jf : Nat} (hM : MaW σ ru ri si ki S lf jf) (hJ : SeJ σ) {sh : Nat → SH} (hS : CSH σ sh) (hG : SHG sh) {i : Nat} (hi4 : i < 4) (hne : ¬ (sh i).1 = -1) {A : Nat} (hA9 : (tbS n (sh i).2.2 (sh i).2.1) = some A) (h11 : PaJ σ 11) : Cn 5 M_X7_table 0 0 [.ref 0, .int (nI i), .int (nI 1)] σ (fun r9 σ' => r9 = some (.int (tabV rr n K N W D S lf jf (sh i).2.1 (tOf (sh i).2.2 (sh i).2.1) 1)) ∧ SeJ σ' ∧ PaJ σ' 11 ∧ MaW σ' ru ri si ki S lf jf ∧ Fr (fun i => i = 18 ∨ i = ki ∨ (11 ≤ i ∧ i ≤ 15) ∨ (22 ≤ i ∧ i ≤ 27)) σ σ') := by
  obtain ⟨g31, hS2⟩ := id hS
  obtain ⟨s0, s1⟩ := hS2 i hi4
  obtain ⟨hso9, hz40, hl40⟩ := hG i hi4
  have hne' : ¬ ((sh i).1).toInt = -1 := fun q => hne (Int32.toInt_inj.mp q)
  obtain ⟨bw8, am8, sz8, rd8, jd8, fd8, en8, e0⟩ := hJ.ok
  obtain ⟨ro9, di9, ru9, n9, K9, N9, W9, D9, hT9⟩ := id h11
  have t0 := hT9.1
  have hn7 := h.2.2.2.2.2.1
  obtain ⟨hAn, hA2, hpA, -, -, hsA, hDi⟩ := tbS_ok hn7 hA9
  have m0 := hM.1
  have hloc := hM.2.2.2.2.2.1
  have hf7 : ∀ w, ffrom (fun s => !contB (decide (rr = 1)) (sh i).2.1 (tOf (sh i).2.2 (sh i).2.1) (wlS K N D n A (-1)) s) (sh i).2.1 0 = some w → w < 7 := fun w hw => by have := ffrom_lt _ _ hw; omega
  refine Cn.intro (lv0 := [some (.ref 0), some (.int (nI i)), some (.int (nI 1))]) rfl (Nat.le_of_ble_eq_true rfl) rfl (fun d hd => ?_)
  refine x_iload_n dX7_table_0 rfl ?_
  refine x_callS m_X7_isSheet l_X7_153 (c_isSheetP (p := ((i : Nat) : Int)) (nI_toInt (by omega))) (by omega) rfl rfl (Nat.le_of_ble_eq_true rfl) ⟨Nat.le_refl _, Nat.le_refl _⟩ dX7_table_1 (fun r1 s1 q1 => ?_)
  obtain ⟨rfl, eq1⟩ := q1
  obtain rfl := eq1.symm
  refine x_stk (st' := [.int (bI (decide (0 ≤ ((i : Nat) : Int) ∧ ((i : Nat) : Int) ≤ 3)))]) rfl ?_
  refine x_ifP_eq (P := 0 ≤ ((i : Nat) : Int) ∧ ((i : Nat) : Int) ≤ 3) inferInstance (tgt := 29) dX7_table_4 (by decide) (fun hv2 => ?_) (fun hv2 => ?_)
  · exact absurd hv2 (by omega)
  · refine x_iload_n dX7_table_7 rfl ?_
    refine x_iconst (v := nI 0) dX7_table_8 (by decide) ?_
    refine x_iconst (v := nI 2) dX7_table_9 (by decide) ?_
    refine x_callS m_X7_isWithin l_X7_72 (c_within (p := ((1 : Nat) : Int)) (q := ((0 : Nat) : Int)) (r := ((2 : Nat) : Int)) (nI_toInt (by omega)) (nI_toInt (by omega)) (nI_toInt (by omega))) (by omega) rfl rfl (Nat.le_of_ble_eq_true rfl) ⟨Nat.le_refl _, Nat.le_refl _⟩ dX7_table_10 (fun r3 s3 q3 => ?_)
    obtain ⟨rfl, eq3⟩ := q3
    obtain rfl := eq3.symm
    refine x_stk (st' := [.int (bI (decide (((0 : Nat) : Int) ≤ ((1 : Nat) : Int) ∧ ((1 : Nat) : Int) ≤ ((2 : Nat) : Int))))]) rfl ?_
    refine x_ifP_eq (P := ((0 : Nat) : Int) ≤ ((1 : Nat) : Int) ∧ ((1 : Nat) : Int) ≤ ((2 : Nat) : Int)) inferInstance (tgt := 29) dX7_table_13 (by decide) (fun hv4 => ?_) (fun hv4 => ?_)
    · exact absurd hv4 (by omega)
    · refine x_aload_n dX7_table_16 rfl ?_
      refine x_aload_n dX7_table_17 rfl ?_
      refine x_get (v := .ref 31) f_X7_45 k0 rfl dX7_table_18 ?_
      refine x_iload_n dX7_table_21 rfl ?_
      refine x_aald (Or.inr rfl) g31 rfl (sh_aa hi4) dX7_table_22 ?_
      refine x_callV m_X7_isTable l_X7_156 (c_isTable k0 h hr1 hl40 (by omega) (by omega) s0 s1 hz40 hJ hne') rfl k0 (by omega) rfl rfl (Nat.le_of_ble_eq_true rfl) ⟨Nat.le_refl _, Nat.le_refl _⟩ dX7_table_23 (fun r5 s5 q5 => ?_)
      obtain ⟨rfl, J5, T5, F5⟩ := q5
      obtain ⟨bw5, jd5, fd5, en5, e0_5⟩ := (T5 _ hA9).ok
      refine x_stk (st' := [.int (bI ((tbS n (sh i).2.2 (sh i).2.1).isSome))]) rfl ?_
      refine x_ifB_ne (tgt := 32) dX7_table_26 (by decide) (fun hv6 => ?_) (fun hv6 => ?_)
      · refine x_iload_n dX7_table_32 rfl ?_
        refine x_ifN_ne (tgt := 53) dX7_table_33 (by decide) (by omega) (fun hv7 => ?_) (fun hv7 => ?_)
        · refine x_iload_n dX7_table_53 rfl ?_
          refine x_iconst (v := nI 1) dX7_table_54 (by decide) ?_
          refine x_icmpN_ne (tgt := 74) dX7_table_55 (by decide) (by omega) (by omega) (fun hv8 => ?_) (fun hv8 => ?_)
          · exact absurd hv8 (by decide)
          · refine x_aload_n dX7_table_58 rfl ?_
            refine x_get (v := .ref 22) f_X7_32 (F5.at (by omega) k0) rfl dX7_table_59 ?_
            refine x_aload_n dX7_table_62 rfl ?_
            refine x_get (v := .ref 16) f_X7_25 (F5.at (by omega) k0) rfl dX7_table_63 ?_
            refine x_aload_n dX7_table_66 rfl ?_
            refine x_get (v := .ref 1) f_X7_10 (F5.at (by omega) k0) rfl dX7_table_67 ?_
            refine x_callV m_X5_joy l_X7_164 (c_joyT (T5 _ hA9) (Or.inl rfl) (by omega) (wlS_ok hn7) (h.fr F5 (by omega)) (hM.fr F5 (by omega))) rfl e0_5 (by omega) rfl rfl (Nat.le_of_ble_eq_true rfl) ⟨Nat.le_refl _, Nat.le_refl _⟩ dX7_table_70 (fun r9 s9 q9 => ?_)
            obtain ⟨rfl, M9, F9⟩ := q9
            refine x_stk (st' := [.int ((sumI (jyI S jf K N W D (tOf (sh i).2.2 (sh i).2.1) (sh i).2.1) (prS (decide (rr = 1)) (sh i).2.1)))]) rfl ?_
            exact x_iret ⟨Nat.le_refl _, Nat.le_refl _⟩ rfl dX7_table_73 ⟨rfl, (J5.fr F9 (by omega)), ((h11.fr F5 (by omega)).fr F9 (by omega)), M9, ((Fr.rf.tr (F5.mono (fun i hi => by omega))).tr (F9.mono (fun i hi => by omega)))⟩
        · exact absurd hv7 (by decide)
      · exact absurd (hv6.symm.trans (congrArg Option.isSome hA9)) (fun z => Bool.noConfusion z)
set_option maxHeartbeats 4000000 in
theorem c_table2 {σ : ZS} {tx ik : Int32} (k0 : zg σ 0 = some (.inr (.inr (6, [.ref 1, .ref 6, .ref 11, .ref 16, .ref 22, .ref 28, .ref 31, .int tx, .int ik])))) {rr dn ru n : Nat} {K N : List Nat} {W : List Int32} {D : List Nat} (h : Pa σ 1 (nI rr) (nI dn) (nI ru) n K N W D) (hr1 : rr ≤ 1) {ri si ki : Nat} {S : List Nat} {lf jf : Nat} (hM : MaW σ ru ri si ki S lf jf) (hJ : SeJ σ) {sh : Nat → SH} (hS : CSH σ sh) (hG : SHG sh) {i : Nat} (hi4 : i < 4) (hne : ¬ (sh i).1 = -1) {A : Nat} (hA9 : (tbS n (sh i).2.2 (sh i).2.1) = some A) (h11 : PaJ σ 11) : Cn 5 M_X7_table 0 0 [.ref 0, .int (nI i), .int (nI 2)] σ (fun r9 σ' => r9 = some (.int (tabV rr n K N W D S lf jf (sh i).2.1 (tOf (sh i).2.2 (sh i).2.1) 2)) ∧ SeJ σ' ∧ PaJ σ' 11 ∧ MaW σ' ru ri si ki S lf jf ∧ Fr (fun i => i = 18 ∨ i = ki ∨ (11 ≤ i ∧ i ≤ 15) ∨ (22 ≤ i ∧ i ≤ 27)) σ σ') := by
  obtain ⟨g31, hS2⟩ := id hS
  obtain ⟨s0, s1⟩ := hS2 i hi4
  obtain ⟨hso9, hz40, hl40⟩ := hG i hi4
  have hne' : ¬ ((sh i).1).toInt = -1 := fun q => hne (Int32.toInt_inj.mp q)
  obtain ⟨bw8, am8, sz8, rd8, jd8, fd8, en8, e0⟩ := hJ.ok
  obtain ⟨ro9, di9, ru9, n9, K9, N9, W9, D9, hT9⟩ := id h11
  have t0 := hT9.1
  have hn7 := h.2.2.2.2.2.1
  obtain ⟨hAn, hA2, hpA, -, -, hsA, hDi⟩ := tbS_ok hn7 hA9
  have m0 := hM.1
  have hloc := hM.2.2.2.2.2.1
  have hf7 : ∀ w, ffrom (fun s => !contB (decide (rr = 1)) (sh i).2.1 (tOf (sh i).2.2 (sh i).2.1) (wlS K N D n A (-1)) s) (sh i).2.1 0 = some w → w < 7 := fun w hw => by have := ffrom_lt _ _ hw; omega
  refine Cn.intro (lv0 := [some (.ref 0), some (.int (nI i)), some (.int (nI 2))]) rfl (Nat.le_of_ble_eq_true rfl) rfl (fun d hd => ?_)
  refine x_iload_n dX7_table_0 rfl ?_
  refine x_callS m_X7_isSheet l_X7_153 (c_isSheetP (p := ((i : Nat) : Int)) (nI_toInt (by omega))) (by omega) rfl rfl (Nat.le_of_ble_eq_true rfl) ⟨Nat.le_refl _, Nat.le_refl _⟩ dX7_table_1 (fun r1 s1 q1 => ?_)
  obtain ⟨rfl, eq1⟩ := q1
  obtain rfl := eq1.symm
  refine x_stk (st' := [.int (bI (decide (0 ≤ ((i : Nat) : Int) ∧ ((i : Nat) : Int) ≤ 3)))]) rfl ?_
  refine x_ifP_eq (P := 0 ≤ ((i : Nat) : Int) ∧ ((i : Nat) : Int) ≤ 3) inferInstance (tgt := 29) dX7_table_4 (by decide) (fun hv2 => ?_) (fun hv2 => ?_)
  · exact absurd hv2 (by omega)
  · refine x_iload_n dX7_table_7 rfl ?_
    refine x_iconst (v := nI 0) dX7_table_8 (by decide) ?_
    refine x_iconst (v := nI 2) dX7_table_9 (by decide) ?_
    refine x_callS m_X7_isWithin l_X7_72 (c_within (p := ((2 : Nat) : Int)) (q := ((0 : Nat) : Int)) (r := ((2 : Nat) : Int)) (nI_toInt (by omega)) (nI_toInt (by omega)) (nI_toInt (by omega))) (by omega) rfl rfl (Nat.le_of_ble_eq_true rfl) ⟨Nat.le_refl _, Nat.le_refl _⟩ dX7_table_10 (fun r3 s3 q3 => ?_)
    obtain ⟨rfl, eq3⟩ := q3
    obtain rfl := eq3.symm
    refine x_stk (st' := [.int (bI (decide (((0 : Nat) : Int) ≤ ((2 : Nat) : Int) ∧ ((2 : Nat) : Int) ≤ ((2 : Nat) : Int))))]) rfl ?_
    refine x_ifP_eq (P := ((0 : Nat) : Int) ≤ ((2 : Nat) : Int) ∧ ((2 : Nat) : Int) ≤ ((2 : Nat) : Int)) inferInstance (tgt := 29) dX7_table_13 (by decide) (fun hv4 => ?_) (fun hv4 => ?_)
    · exact absurd hv4 (by omega)
    · refine x_aload_n dX7_table_16 rfl ?_
      refine x_aload_n dX7_table_17 rfl ?_
      refine x_get (v := .ref 31) f_X7_45 k0 rfl dX7_table_18 ?_
      refine x_iload_n dX7_table_21 rfl ?_
      refine x_aald (Or.inr rfl) g31 rfl (sh_aa hi4) dX7_table_22 ?_
      refine x_callV m_X7_isTable l_X7_156 (c_isTable k0 h hr1 hl40 (by omega) (by omega) s0 s1 hz40 hJ hne') rfl k0 (by omega) rfl rfl (Nat.le_of_ble_eq_true rfl) ⟨Nat.le_refl _, Nat.le_refl _⟩ dX7_table_23 (fun r5 s5 q5 => ?_)
      obtain ⟨rfl, J5, T5, F5⟩ := q5
      obtain ⟨bw5, jd5, fd5, en5, e0_5⟩ := (T5 _ hA9).ok
      refine x_stk (st' := [.int (bI ((tbS n (sh i).2.2 (sh i).2.1).isSome))]) rfl ?_
      refine x_ifB_ne (tgt := 32) dX7_table_26 (by decide) (fun hv6 => ?_) (fun hv6 => ?_)
      · refine x_iload_n dX7_table_32 rfl ?_
        refine x_ifN_ne (tgt := 53) dX7_table_33 (by decide) (by omega) (fun hv7 => ?_) (fun hv7 => ?_)
        · refine x_iload_n dX7_table_53 rfl ?_
          refine x_iconst (v := nI 1) dX7_table_54 (by decide) ?_
          refine x_icmpN_ne (tgt := 74) dX7_table_55 (by decide) (by omega) (by omega) (fun hv8 => ?_) (fun hv8 => ?_)
          · refine x_aload_n dX7_table_74 rfl ?_
            refine x_get (v := .ref 11) f_X7_19 (F5.at (by omega) k0) rfl dX7_table_75 ?_
            refine x_aload_n dX7_table_78 rfl ?_
            refine x_get (v := .ref 1) f_X7_10 (F5.at (by omega) k0) rfl dX7_table_79 ?_
            refine x_callV m_X2_become l_X7_168 (c_become (hT9.fr F5 (by omega)) (h.fr F5 (by omega)) (by omega)) rfl (F5.at (by omega) t0) (by omega) rfl rfl (Nat.le_of_ble_eq_true rfl) ⟨Nat.le_refl _, Nat.le_refl _⟩ dX7_table_82 (fun r9 s9 q9 => ?_)
            obtain ⟨rfl, P9, F9⟩ := q9
            refine x_stk (st' := []) rfl ?_
            refine x_aload_n dX7_table_85 rfl ?_
            refine x_get (v := .ref 22) f_X7_32 (F9.at (by omega) (F5.at (by omega) k0)) rfl dX7_table_86 ?_
            refine x_aload_n dX7_table_89 rfl ?_
            refine x_get (v := .ref 16) f_X7_25 (F9.at (by omega) (F5.at (by omega) k0)) rfl dX7_table_90 ?_
            refine x_aload_n dX7_table_93 rfl ?_
            refine x_get (v := .ref 11) f_X7_19 (F9.at (by omega) (F5.at (by omega) k0)) rfl dX7_table_94 ?_
            refine x_callV m_X5_hold l_X7_172 (c_holdT ((T5 _ hA9).fr F9 (by omega)) (Or.inr rfl) (by omega) (wlS_ok hn7) P9 ((hM.fr F5 (by omega)).fr F9 (by omega))) rfl (F9.at (by omega) e0_5) (by omega) rfl rfl (Nat.le_of_ble_eq_true rfl) ⟨Nat.le_refl _, Nat.le_refl _⟩ dX7_table_97 (fun r10 s10 q10 => ?_)
            obtain ⟨rfl, P10, M10, F10⟩ := q10
            refine x_stk (st' := []) rfl ?_
            refine x_aload_n dX7_table_100 rfl ?_
            refine x_get (v := .ref 11) f_X7_19 (F10.at (by omega) (F9.at (by omega) (F5.at (by omega) k0))) rfl dX7_table_101 ?_
            refine x_callV m_X2_owed l_X7_176 (c_owed P10) rfl P10.1 (by omega) rfl rfl (Nat.le_of_ble_eq_true rfl) ⟨Nat.le_refl _, Nat.le_refl _⟩ dX7_table_104 (fun r11 s11 q11 => ?_)
            obtain ⟨rfl, eq11⟩ := q11
            obtain rfl := eq11.symm
            refine x_stk (st' := [.int (nI ((allS (hdD S lf jf K N W (tOf (sh i).2.2 (sh i).2.1) (sh i).2.1 (prS (decide (rr = 1)) (sh i).2.1) D) n n)))]) rfl ?_
            exact x_iret ⟨Nat.le_refl _, Nat.le_refl _⟩ rfl dX7_table_107 ⟨rfl, ((J5.fr F9 (by omega)).fr F10 (by omega)), ⟨_, _, _, _, _, _, _, _, P10⟩, M10, (((Fr.rf.tr (F5.mono (fun i hi => by omega))).tr (F9.mono (fun i hi => by omega))).tr (F10.mono (fun i hi => by omega)))⟩
          · exact absurd hv8 (by decide)
        · exact absurd hv7 (by decide)
      · exact absurd (hv6.symm.trans (congrArg Option.isSome hA9)) (fun z => Bool.noConfusion z)
set_option maxHeartbeats 4000000 in
theorem c_table_n {σ : ZS} {tx ik : Int32} (k0 : zg σ 0 = some (.inr (.inr (6, [.ref 1, .ref 6, .ref 11, .ref 16, .ref 22, .ref 28, .ref 31, .int tx, .int ik])))) {rr dn ru n : Nat} {K N : List Nat} {W : List Int32} {D : List Nat} (h : Pa σ 1 (nI rr) (nI dn) (nI ru) n K N W D) (hr1 : rr ≤ 1) (hJ : SeJ σ) {sh : Nat → SH} (hS : CSH σ sh) (hG : SHG sh) {i : Nat} (hi4 : i < 4) (hne : ¬ (sh i).1 = -1) (hA9 : (tbS n (sh i).2.2 (sh i).2.1) = none) {w : Int32} (hw : 0 ≤ w.toInt ∧ w.toInt ≤ 2) : Cn 5 M_X7_table 0 0 [.ref 0, .int (nI i), .int w] σ (fun r9 σ' => r9 = some (.int (-100000)) ∧ SeJ σ' ∧ Fr (fun i => 22 ≤ i ∧ i ≤ 25) σ σ') := by
  obtain ⟨g31, hS2⟩ := id hS
  obtain ⟨s0, s1⟩ := hS2 i hi4
  obtain ⟨hso9, hz40, hl40⟩ := hG i hi4
  have hne' : ¬ ((sh i).1).toInt = -1 := fun q => hne (Int32.toInt_inj.mp q)
  obtain ⟨bw8, am8, sz8, rd8, jd8, fd8, en8, e0⟩ := hJ.ok
  refine Cn.intro (lv0 := [some (.ref 0), some (.int (nI i)), some (.int w)]) rfl (Nat.le_of_ble_eq_true rfl) rfl (fun d hd => ?_)
  refine x_iload_n dX7_table_0 rfl ?_
  refine x_callS m_X7_isSheet l_X7_153 (c_isSheetP (p := ((i : Nat) : Int)) (nI_toInt (by omega))) (by omega) rfl rfl (Nat.le_of_ble_eq_true rfl) ⟨Nat.le_refl _, Nat.le_refl _⟩ dX7_table_1 (fun r1 s1 q1 => ?_)
  obtain ⟨rfl, eq1⟩ := q1
  obtain rfl := eq1.symm
  refine x_stk (st' := [.int (bI (decide (0 ≤ ((i : Nat) : Int) ∧ ((i : Nat) : Int) ≤ 3)))]) rfl ?_
  refine x_ifP_eq (P := 0 ≤ ((i : Nat) : Int) ∧ ((i : Nat) : Int) ≤ 3) inferInstance (tgt := 29) dX7_table_4 (by decide) (fun hv2 => ?_) (fun hv2 => ?_)
  · exact absurd hv2 (by omega)
  · refine x_iload_n dX7_table_7 rfl ?_
    refine x_iconst (v := nI 0) dX7_table_8 (by decide) ?_
    refine x_iconst (v := nI 2) dX7_table_9 (by decide) ?_
    refine x_callS m_X7_isWithin l_X7_72 (c_within (p := (w).toInt) (q := ((0 : Nat) : Int)) (r := ((2 : Nat) : Int)) rfl (nI_toInt (by omega)) (nI_toInt (by omega))) (by omega) rfl rfl (Nat.le_of_ble_eq_true rfl) ⟨Nat.le_refl _, Nat.le_refl _⟩ dX7_table_10 (fun r3 s3 q3 => ?_)
    obtain ⟨rfl, eq3⟩ := q3
    obtain rfl := eq3.symm
    refine x_stk (st' := [.int (bI (decide (((0 : Nat) : Int) ≤ (w).toInt ∧ (w).toInt ≤ ((2 : Nat) : Int))))]) rfl ?_
    refine x_ifP_eq (P := ((0 : Nat) : Int) ≤ (w).toInt ∧ (w).toInt ≤ ((2 : Nat) : Int)) inferInstance (tgt := 29) dX7_table_13 (by decide) (fun hv4 => ?_) (fun hv4 => ?_)
    · exact absurd hv4 (by omega)
    · refine x_aload_n dX7_table_16 rfl ?_
      refine x_aload_n dX7_table_17 rfl ?_
      refine x_get (v := .ref 31) f_X7_45 k0 rfl dX7_table_18 ?_
      refine x_iload_n dX7_table_21 rfl ?_
      refine x_aald (Or.inr rfl) g31 rfl (sh_aa hi4) dX7_table_22 ?_
      refine x_callV m_X7_isTable l_X7_156 (c_isTable k0 h hr1 hl40 (by omega) (by omega) s0 s1 hz40 hJ hne') rfl k0 (by omega) rfl rfl (Nat.le_of_ble_eq_true rfl) ⟨Nat.le_refl _, Nat.le_refl _⟩ dX7_table_23 (fun r5 s5 q5 => ?_)
      obtain ⟨rfl, J5, T5, F5⟩ := q5
      refine x_stk (st' := [.int (bI ((tbS n (sh i).2.2 (sh i).2.1).isSome))]) rfl ?_
      refine x_ifB_ne (tgt := 32) dX7_table_26 (by decide) (fun hv6 => ?_) (fun hv6 => ?_)
      · exact absurd (hv6.symm.trans (congrArg Option.isSome hA9)) (fun z => Bool.noConfusion z)
      · refine x_ldc (v := (-100000)) c_X7_160 dX7_table_29 ?_
        exact x_iret ⟨Nat.le_refl _, Nat.le_refl _⟩ rfl dX7_table_31 ⟨rfl, J5, (Fr.rf.tr (F5.mono (fun i hi => by omega)))⟩
set_option maxHeartbeats 4000000 in
theorem c_table_m {σ : ZS} {tx ik : Int32} (k0 : zg σ 0 = some (.inr (.inr (6, [.ref 1, .ref 6, .ref 11, .ref 16, .ref 22, .ref 28, .ref 31, .int tx, .int ik])))) {rr dn ru n : Nat} {K N : List Nat} {W : List Int32} {D : List Nat} (h : Pa σ 1 (nI rr) (nI dn) (nI ru) n K N W D) (hr1 : rr ≤ 1) (hJ : SeJ σ) {sh : Nat → SH} (hS : CSH σ sh) (hG : SHG sh) {i : Nat} (hi4 : i < 4) (hb : (sh i).1 = -1) {w : Int32} (hw : 0 ≤ w.toInt ∧ w.toInt ≤ 2) : Cn 5 M_X7_table 0 0 [.ref 0, .int (nI i), .int w] σ (fun r9 σ' => r9 = some (.int (-100000)) ∧ σ' = σ) := by
  obtain ⟨g31, hS2⟩ := id hS
  obtain ⟨s0, s1⟩ := hS2 i hi4
  obtain ⟨hso9, hz40, hl40⟩ := hG i hi4
  obtain ⟨bw8, am8, sz8, rd8, jd8, fd8, en8, e0⟩ := hJ.ok
  refine Cn.intro (lv0 := [some (.ref 0), some (.int (nI i)), some (.int w)]) rfl (Nat.le_of_ble_eq_true rfl) rfl (fun d hd => ?_)
  refine x_iload_n dX7_table_0 rfl ?_
  refine x_callS m_X7_isSheet l_X7_153 (c_isSheetP (p := ((i : Nat) : Int)) (nI_toInt (by omega))) (by omega) rfl rfl (Nat.le_of_ble_eq_true rfl) ⟨Nat.le_refl _, Nat.le_refl _⟩ dX7_table_1 (fun r1 s1 q1 => ?_)
  obtain ⟨rfl, eq1⟩ := q1
  obtain rfl := eq1.symm
  refine x_stk (st' := [.int (bI (decide (0 ≤ ((i : Nat) : Int) ∧ ((i : Nat) : Int) ≤ 3)))]) rfl ?_
  refine x_ifP_eq (P := 0 ≤ ((i : Nat) : Int) ∧ ((i : Nat) : Int) ≤ 3) inferInstance (tgt := 29) dX7_table_4 (by decide) (fun hv2 => ?_) (fun hv2 => ?_)
  · exact absurd hv2 (by omega)
  · refine x_iload_n dX7_table_7 rfl ?_
    refine x_iconst (v := nI 0) dX7_table_8 (by decide) ?_
    refine x_iconst (v := nI 2) dX7_table_9 (by decide) ?_
    refine x_callS m_X7_isWithin l_X7_72 (c_within (p := (w).toInt) (q := ((0 : Nat) : Int)) (r := ((2 : Nat) : Int)) rfl (nI_toInt (by omega)) (nI_toInt (by omega))) (by omega) rfl rfl (Nat.le_of_ble_eq_true rfl) ⟨Nat.le_refl _, Nat.le_refl _⟩ dX7_table_10 (fun r3 s3 q3 => ?_)
    obtain ⟨rfl, eq3⟩ := q3
    obtain rfl := eq3.symm
    refine x_stk (st' := [.int (bI (decide (((0 : Nat) : Int) ≤ (w).toInt ∧ (w).toInt ≤ ((2 : Nat) : Int))))]) rfl ?_
    refine x_ifP_eq (P := ((0 : Nat) : Int) ≤ (w).toInt ∧ (w).toInt ≤ ((2 : Nat) : Int)) inferInstance (tgt := 29) dX7_table_13 (by decide) (fun hv4 => ?_) (fun hv4 => ?_)
    · exact absurd hv4 (by omega)
    · refine x_aload_n dX7_table_16 rfl ?_
      refine x_aload_n dX7_table_17 rfl ?_
      refine x_get (v := .ref 31) f_X7_45 k0 rfl dX7_table_18 ?_
      refine x_iload_n dX7_table_21 rfl ?_
      refine x_aald (Or.inr rfl) g31 rfl (sh_aa hi4) dX7_table_22 ?_
      refine x_callV m_X7_isTable l_X7_156 (c_isTable_m k0 h hr1 hl40 (by omega) (by omega) s0 s1 (by rw [hb]; decide)) rfl k0 (by omega) rfl rfl (Nat.le_of_ble_eq_true rfl) ⟨Nat.le_refl _, Nat.le_refl _⟩ dX7_table_23 (fun r5 s5 q5 => ?_)
      obtain ⟨rfl, eq5⟩ := q5
      obtain rfl := eq5.symm
      refine x_stk (st' := [.int (nI 0)]) rfl ?_
      refine x_ifN_ne (tgt := 32) dX7_table_26 (by decide) (by omega) (fun hv6 => ?_) (fun hv6 => ?_)
      · exact absurd hv6 (by decide)
      · refine x_ldc (v := (-100000)) c_X7_160 dX7_table_29 ?_
        exact x_iret ⟨Nat.le_refl _, Nat.le_refl _⟩ rfl dX7_table_31 ⟨rfl, rfl⟩
set_option maxHeartbeats 4000000 in
theorem c_table_b {σ : ZS} {tx ik : Int32} (k0 : zg σ 0 = some (.inr (.inr (6, [.ref 1, .ref 6, .ref 11, .ref 16, .ref 22, .ref 28, .ref 31, .int tx, .int ik])))) {x w : Int32} (hb : ¬ (0 ≤ x.toInt ∧ x.toInt ≤ 3) ∨ ¬ (0 ≤ w.toInt ∧ w.toInt ≤ 2)) : Cn 5 M_X7_table 0 0 [.ref 0, .int x, .int w] σ (fun r9 σ' => r9 = some (.int (-100000)) ∧ σ' = σ) := by
  refine Cn.intro (lv0 := [some (.ref 0), some (.int x), some (.int w)]) rfl (Nat.le_of_ble_eq_true rfl) rfl (fun d hd => ?_)
  refine x_iload_n dX7_table_0 rfl ?_
  refine x_callS m_X7_isSheet l_X7_153 (c_isSheetP (p := (x).toInt) rfl) (by omega) rfl rfl (Nat.le_of_ble_eq_true rfl) ⟨Nat.le_refl _, Nat.le_refl _⟩ dX7_table_1 (fun r1 s1 q1 => ?_)
  obtain ⟨rfl, eq1⟩ := q1
  obtain rfl := eq1.symm
  refine x_stk (st' := [.int (bI (decide (0 ≤ (x).toInt ∧ (x).toInt ≤ 3)))]) rfl ?_
  refine x_ifP_eq (P := 0 ≤ (x).toInt ∧ (x).toInt ≤ 3) inferInstance (tgt := 29) dX7_table_4 (by decide) (fun hv2 => ?_) (fun hv2 => ?_)
  · refine x_ldc (v := (-100000)) c_X7_160 dX7_table_29 ?_
    exact x_iret ⟨Nat.le_refl _, Nat.le_refl _⟩ rfl dX7_table_31 ⟨rfl, rfl⟩
  · refine x_iload_n dX7_table_7 rfl ?_
    refine x_iconst (v := nI 0) dX7_table_8 (by decide) ?_
    refine x_iconst (v := nI 2) dX7_table_9 (by decide) ?_
    refine x_callS m_X7_isWithin l_X7_72 (c_within (p := (w).toInt) (q := ((0 : Nat) : Int)) (r := ((2 : Nat) : Int)) rfl (nI_toInt (by omega)) (nI_toInt (by omega))) (by omega) rfl rfl (Nat.le_of_ble_eq_true rfl) ⟨Nat.le_refl _, Nat.le_refl _⟩ dX7_table_10 (fun r3 s3 q3 => ?_)
    obtain ⟨rfl, eq3⟩ := q3
    obtain rfl := eq3.symm
    refine x_stk (st' := [.int (bI (decide (((0 : Nat) : Int) ≤ (w).toInt ∧ (w).toInt ≤ ((2 : Nat) : Int))))]) rfl ?_
    refine x_ifP_eq (P := ((0 : Nat) : Int) ≤ (w).toInt ∧ (w).toInt ≤ ((2 : Nat) : Int)) inferInstance (tgt := 29) dX7_table_13 (by decide) (fun hv4 => ?_) (fun hv4 => ?_)
    · refine x_ldc (v := (-100000)) c_X7_160 dX7_table_29 ?_
      exact x_iret ⟨Nat.le_refl _, Nat.le_refl _⟩ rfl dX7_table_31 ⟨rfl, rfl⟩
    · exact absurd hv4 (by omega)
set_option maxHeartbeats 4000000 in
theorem c_dine {σ : ZS} {tx ik : Int32} (k0 : zg σ 0 = some (.inr (.inr (6, [.ref 1, .ref 6, .ref 11, .ref 16, .ref 22, .ref 28, .ref 31, .int tx, .int ik])))) {rr dn ru n : Nat} {K N : List Nat} {W : List Int32} {D : List Nat} (h : Pa σ 1 (nI rr) (nI dn) (nI ru) n K N W D) (hr1 : rr ≤ 1) {ri si ki : Nat} {S : List Nat} {lf jf : Nat} (hM : MaW σ ru ri si ki S lf jf) (hJ : SeJ σ) {sh : Nat → SH} (hS : CSH σ sh) (hG : SHG sh) {i : Nat} (hi4 : i < 4) (hne : ¬ (sh i).1 = -1) {A : Nat} (hA9 : (tbS n (sh i).2.2 (sh i).2.1) = some A) (hlt : dn < 999) : Cn 5 M_X7_dine 0 0 [.ref 0, .int (nI i)] σ (fun r9 σ' => r9 = some (.int (nI (allS (hdD S lf jf K N W (tOf (sh i).2.2 (sh i).2.1) (sh i).2.1 (prS (decide (rr = 1)) (sh i).2.1) D) n n))) ∧ Pa σ' 1 (nI rr) (nI (dn + 1)) (nI ru) n K N W (hdD S lf jf K N W (tOf (sh i).2.2 (sh i).2.1) (sh i).2.1 (prS (decide (rr = 1)) (sh i).2.1) D) ∧ SeJ σ' ∧ MaW σ' ru ri si ki S lf jf ∧ Fr (fun i => (1 ≤ i ∧ i ≤ 5) ∨ i = 18 ∨ i = ki ∨ (22 ≤ i ∧ i ≤ 27)) σ σ') := by
  obtain ⟨g31, hS2⟩ := id hS
  obtain ⟨s0, s1⟩ := hS2 i hi4
  obtain ⟨hso9, hz40, hl40⟩ := hG i hi4
  have hne' : ¬ ((sh i).1).toInt = -1 := fun q => hne (Int32.toInt_inj.mp q)
  obtain ⟨bw8, am8, sz8, rd8, jd8, fd8, en8, e0⟩ := hJ.ok
  have hn7 := h.2.2.2.2.2.1
  obtain ⟨hAn, hA2, hpA, -, -, hsA, hDi⟩ := tbS_ok hn7 hA9
  have m0 := hM.1
  have hloc := hM.2.2.2.2.2.1
  refine Cn.intro (lv0 := [some (.ref 0), some (.int (nI i))]) rfl (Nat.le_of_ble_eq_true rfl) rfl (fun d hd => ?_)
  refine x_iload_n dX7_dine_0 rfl ?_
  refine x_callS m_X7_isSheet l_X7_153 (c_isSheetP (p := ((i : Nat) : Int)) (nI_toInt (by omega))) (by omega) rfl rfl (Nat.le_of_ble_eq_true rfl) ⟨Nat.le_refl _, Nat.le_refl _⟩ dX7_dine_1 (fun r1 s1 q1 => ?_)
  obtain ⟨rfl, eq1⟩ := q1
  obtain rfl := eq1.symm
  refine x_stk (st' := [.int (bI (decide (0 ≤ ((i : Nat) : Int) ∧ ((i : Nat) : Int) ≤ 3)))]) rfl ?_
  refine x_ifP_ne (P := 0 ≤ ((i : Nat) : Int) ∧ ((i : Nat) : Int) ≤ 3) inferInstance (tgt := 10) dX7_dine_4 (by decide) (fun hv2 => ?_) (fun hv2 => ?_)
  · refine x_aload_n dX7_dine_10 rfl ?_
    refine x_get (v := .ref 31) f_X7_45 k0 rfl dX7_dine_11 ?_
    refine x_iload_n dX7_dine_14 rfl ?_
    refine x_aald (Or.inr rfl) g31 rfl (sh_aa hi4) dX7_dine_15 ?_
    refine x_get (v := .int ((sh i).1)) f_X7_179 s0 rfl dX7_dine_16 ?_
    refine x_iconst (v := (-1)) dX7_dine_19 (by decide) ?_
    refine x_icmpT_ne (p := ((sh i).1).toInt) (q := (-1)) (tgt := 26) rfl (by decide) dX7_dine_20 (by decide) (fun hv3 => ?_) (fun hv3 => ?_)
    · refine x_aload_n dX7_dine_26 rfl ?_
      refine x_aload_n dX7_dine_27 rfl ?_
      refine x_get (v := .ref 31) f_X7_45 k0 rfl dX7_dine_28 ?_
      refine x_iload_n dX7_dine_31 rfl ?_
      refine x_aald (Or.inr rfl) g31 rfl (sh_aa hi4) dX7_dine_32 ?_
      refine x_callV m_X7_isTable l_X7_156 (c_isTable k0 h hr1 hl40 (by omega) (by omega) s0 s1 hz40 hJ hne') rfl k0 (by omega) rfl rfl (Nat.le_of_ble_eq_true rfl) ⟨Nat.le_refl _, Nat.le_refl _⟩ dX7_dine_33 (fun r4 s4 q4 => ?_)
      obtain ⟨rfl, J4, T4, F4⟩ := q4
      obtain ⟨bw4, jd4, fd4, en4, e0_4⟩ := (T4 _ hA9).ok
      refine x_stk (st' := [.int (bI ((tbS n (sh i).2.2 (sh i).2.1).isSome))]) rfl ?_
      refine x_ifB_ne (tgt := 42) dX7_dine_36 (by decide) (fun hv5 => ?_) (fun hv5 => ?_)
      · refine x_aload_n dX7_dine_42 rfl ?_
        refine x_get (v := .ref 1) f_X7_10 (F4.at (by omega) k0) rfl dX7_dine_43 ?_
        refine x_get (v := .int (nI dn)) f_X7_79 (F4.at (by omega) h.1) rfl dX7_dine_46 ?_
        refine x_sipush (v := nI 999) dX7_dine_49 (by decide) ?_
        refine x_icmpN_lt (tgt := 58) dX7_dine_52 (by decide) (by omega) (by omega) (fun hv6 => ?_) (fun hv6 => ?_)
        · refine x_aload_n dX7_dine_58 rfl ?_
          refine x_get (v := .ref 22) f_X7_32 (F4.at (by omega) k0) rfl dX7_dine_59 ?_
          refine x_aload_n dX7_dine_62 rfl ?_
          refine x_get (v := .ref 16) f_X7_25 (F4.at (by omega) k0) rfl dX7_dine_63 ?_
          refine x_aload_n dX7_dine_66 rfl ?_
          refine x_get (v := .ref 1) f_X7_10 (F4.at (by omega) k0) rfl dX7_dine_67 ?_
          refine x_callV m_X5_hold l_X7_172 (c_holdT (T4 _ hA9) (Or.inl rfl) (by omega) (wlS_ok hn7) (h.fr F4 (by omega)) (hM.fr F4 (by omega))) rfl e0_4 (by omega) rfl rfl (Nat.le_of_ble_eq_true rfl) ⟨Nat.le_refl _, Nat.le_refl _⟩ dX7_dine_70 (fun r7 s7 q7 => ?_)
          obtain ⟨rfl, P7, M7, F7⟩ := q7
          refine x_stk (st' := []) rfl ?_
          refine x_aload_n dX7_dine_73 rfl ?_
          refine x_get (v := .ref 1) f_X7_10 (F7.at (by omega) (F4.at (by omega) k0)) rfl dX7_dine_74 ?_
          refine x_dup dX7_dine_77 rfl ?_
          refine x_get (v := .int (nI dn)) f_X7_79 P7.1 rfl dX7_dine_78 ?_
          refine x_iconst (v := nI 1) dX7_dine_81 (by decide) ?_
          refine x_iaddN dX7_dine_82 ?_
          refine x_putK f_X7_79 P7.1 (Nat.le_of_ble_eq_true rfl) (fun c => ⟨rfl, rfl⟩) dX7_dine_83 (fun sw8 gw8 Fw8 => ?_)
          have Pd : Pa sw8 1 (nI rr) (nI (dn + 1)) (nI ru) n K N W (hdD S lf jf K N W (tOf (sh i).2.2 (sh i).2.1) (sh i).2.1 (prS (decide (rr = 1)) (sh i).2.1) D) := ⟨gw8, Fw8.at (by omega) P7.2.1, Fw8.at (by omega) P7.2.2.1, Fw8.at (by omega) P7.2.2.2.1, Fw8.at (by omega) P7.2.2.2.2.1, P7.2.2.2.2.2⟩
          refine x_aload_n dX7_dine_86 rfl ?_
          refine x_get (v := .ref 1) f_X7_10 (Fw8.at (by omega) (F7.at (by omega) (F4.at (by omega) k0))) rfl dX7_dine_87 ?_
          refine x_callV m_X2_owed l_X7_176 (c_owed Pd) rfl gw8 (by omega) rfl rfl (Nat.le_of_ble_eq_true rfl) ⟨Nat.le_refl _, Nat.le_refl _⟩ dX7_dine_90 (fun r9 s9 q9 => ?_)
          obtain ⟨rfl, eq9⟩ := q9
          obtain rfl := eq9.symm
          refine x_stk (st' := [.int (nI ((allS (hdD S lf jf K N W (tOf (sh i).2.2 (sh i).2.1) (sh i).2.1 (prS (decide (rr = 1)) (sh i).2.1) D) n n)))]) rfl ?_
          exact x_iret ⟨Nat.le_refl _, Nat.le_refl _⟩ rfl dX7_dine_93 ⟨rfl, Pd, ((J4.fr F7 (by omega)).fr Fw8 (by omega)), (M7.fr Fw8 (by omega)), (((Fr.rf.tr (F4.mono (fun i hi => by omega))).tr (F7.mono (fun i hi => by omega))).tr (Fw8.mono (fun i hi => by omega)))⟩
        · exact absurd hv6 (by omega)
      · exact absurd (hv5.symm.trans (congrArg Option.isSome hA9)) (fun z => Bool.noConfusion z)
    · exact absurd hv3 (by omega)
  · exact absurd hv2 (by omega)
set_option maxHeartbeats 4000000 in
theorem c_dine_f {σ : ZS} {tx ik : Int32} (k0 : zg σ 0 = some (.inr (.inr (6, [.ref 1, .ref 6, .ref 11, .ref 16, .ref 22, .ref 28, .ref 31, .int tx, .int ik])))) {rr dn ru n : Nat} {K N : List Nat} {W : List Int32} {D : List Nat} (h : Pa σ 1 (nI rr) (nI dn) (nI ru) n K N W D) (hr1 : rr ≤ 1) (hJ : SeJ σ) {sh : Nat → SH} (hS : CSH σ sh) (hG : SHG sh) {i : Nat} (hi4 : i < 4) (hne : ¬ (sh i).1 = -1) {A : Nat} (hA9 : (tbS n (sh i).2.2 (sh i).2.1) = some A) (hdn : dn = 999) : Cn 5 M_X7_dine 0 0 [.ref 0, .int (nI i)] σ (fun r9 σ' => r9 = some (.int (-3)) ∧ SeJ σ' ∧ Fr (fun i => 22 ≤ i ∧ i ≤ 25) σ σ') := by
  obtain ⟨g31, hS2⟩ := id hS
  obtain ⟨s0, s1⟩ := hS2 i hi4
  obtain ⟨hso9, hz40, hl40⟩ := hG i hi4
  have hne' : ¬ ((sh i).1).toInt = -1 := fun q => hne (Int32.toInt_inj.mp q)
  obtain ⟨bw8, am8, sz8, rd8, jd8, fd8, en8, e0⟩ := hJ.ok
  refine Cn.intro (lv0 := [some (.ref 0), some (.int (nI i))]) rfl (Nat.le_of_ble_eq_true rfl) rfl (fun d hd => ?_)
  refine x_iload_n dX7_dine_0 rfl ?_
  refine x_callS m_X7_isSheet l_X7_153 (c_isSheetP (p := ((i : Nat) : Int)) (nI_toInt (by omega))) (by omega) rfl rfl (Nat.le_of_ble_eq_true rfl) ⟨Nat.le_refl _, Nat.le_refl _⟩ dX7_dine_1 (fun r1 s1 q1 => ?_)
  obtain ⟨rfl, eq1⟩ := q1
  obtain rfl := eq1.symm
  refine x_stk (st' := [.int (bI (decide (0 ≤ ((i : Nat) : Int) ∧ ((i : Nat) : Int) ≤ 3)))]) rfl ?_
  refine x_ifP_ne (P := 0 ≤ ((i : Nat) : Int) ∧ ((i : Nat) : Int) ≤ 3) inferInstance (tgt := 10) dX7_dine_4 (by decide) (fun hv2 => ?_) (fun hv2 => ?_)
  · refine x_aload_n dX7_dine_10 rfl ?_
    refine x_get (v := .ref 31) f_X7_45 k0 rfl dX7_dine_11 ?_
    refine x_iload_n dX7_dine_14 rfl ?_
    refine x_aald (Or.inr rfl) g31 rfl (sh_aa hi4) dX7_dine_15 ?_
    refine x_get (v := .int ((sh i).1)) f_X7_179 s0 rfl dX7_dine_16 ?_
    refine x_iconst (v := (-1)) dX7_dine_19 (by decide) ?_
    refine x_icmpT_ne (p := ((sh i).1).toInt) (q := (-1)) (tgt := 26) rfl (by decide) dX7_dine_20 (by decide) (fun hv3 => ?_) (fun hv3 => ?_)
    · refine x_aload_n dX7_dine_26 rfl ?_
      refine x_aload_n dX7_dine_27 rfl ?_
      refine x_get (v := .ref 31) f_X7_45 k0 rfl dX7_dine_28 ?_
      refine x_iload_n dX7_dine_31 rfl ?_
      refine x_aald (Or.inr rfl) g31 rfl (sh_aa hi4) dX7_dine_32 ?_
      refine x_callV m_X7_isTable l_X7_156 (c_isTable k0 h hr1 hl40 (by omega) (by omega) s0 s1 hz40 hJ hne') rfl k0 (by omega) rfl rfl (Nat.le_of_ble_eq_true rfl) ⟨Nat.le_refl _, Nat.le_refl _⟩ dX7_dine_33 (fun r4 s4 q4 => ?_)
      obtain ⟨rfl, J4, T4, F4⟩ := q4
      refine x_stk (st' := [.int (bI ((tbS n (sh i).2.2 (sh i).2.1).isSome))]) rfl ?_
      refine x_ifB_ne (tgt := 42) dX7_dine_36 (by decide) (fun hv5 => ?_) (fun hv5 => ?_)
      · refine x_aload_n dX7_dine_42 rfl ?_
        refine x_get (v := .ref 1) f_X7_10 (F4.at (by omega) k0) rfl dX7_dine_43 ?_
        refine x_get (v := .int (nI dn)) f_X7_79 (F4.at (by omega) h.1) rfl dX7_dine_46 ?_
        refine x_sipush (v := nI 999) dX7_dine_49 (by decide) ?_
        refine x_icmpN_lt (tgt := 58) dX7_dine_52 (by decide) (by omega) (by omega) (fun hv6 => ?_) (fun hv6 => ?_)
        · exact absurd hv6 (by omega)
        · refine x_bipush (v := (-3)) dX7_dine_55 (by decide) ?_
          exact x_iret ⟨Nat.le_refl _, Nat.le_refl _⟩ rfl dX7_dine_57 ⟨rfl, J4, (Fr.rf.tr (F4.mono (fun i hi => by omega)))⟩
      · exact absurd (hv5.symm.trans (congrArg Option.isSome hA9)) (fun z => Bool.noConfusion z)
    · exact absurd hv3 (by omega)
  · exact absurd hv2 (by omega)
set_option maxHeartbeats 4000000 in
theorem c_dine_n {σ : ZS} {tx ik : Int32} (k0 : zg σ 0 = some (.inr (.inr (6, [.ref 1, .ref 6, .ref 11, .ref 16, .ref 22, .ref 28, .ref 31, .int tx, .int ik])))) {rr dn ru n : Nat} {K N : List Nat} {W : List Int32} {D : List Nat} (h : Pa σ 1 (nI rr) (nI dn) (nI ru) n K N W D) (hr1 : rr ≤ 1) (hJ : SeJ σ) {sh : Nat → SH} (hS : CSH σ sh) (hG : SHG sh) {i : Nat} (hi4 : i < 4) (hne : ¬ (sh i).1 = -1) (hA9 : (tbS n (sh i).2.2 (sh i).2.1) = none) : Cn 5 M_X7_dine 0 0 [.ref 0, .int (nI i)] σ (fun r9 σ' => r9 = some (.int (-2)) ∧ SeJ σ' ∧ Fr (fun i => 22 ≤ i ∧ i ≤ 25) σ σ') := by
  obtain ⟨g31, hS2⟩ := id hS
  obtain ⟨s0, s1⟩ := hS2 i hi4
  obtain ⟨hso9, hz40, hl40⟩ := hG i hi4
  have hne' : ¬ ((sh i).1).toInt = -1 := fun q => hne (Int32.toInt_inj.mp q)
  obtain ⟨bw8, am8, sz8, rd8, jd8, fd8, en8, e0⟩ := hJ.ok
  refine Cn.intro (lv0 := [some (.ref 0), some (.int (nI i))]) rfl (Nat.le_of_ble_eq_true rfl) rfl (fun d hd => ?_)
  refine x_iload_n dX7_dine_0 rfl ?_
  refine x_callS m_X7_isSheet l_X7_153 (c_isSheetP (p := ((i : Nat) : Int)) (nI_toInt (by omega))) (by omega) rfl rfl (Nat.le_of_ble_eq_true rfl) ⟨Nat.le_refl _, Nat.le_refl _⟩ dX7_dine_1 (fun r1 s1 q1 => ?_)
  obtain ⟨rfl, eq1⟩ := q1
  obtain rfl := eq1.symm
  refine x_stk (st' := [.int (bI (decide (0 ≤ ((i : Nat) : Int) ∧ ((i : Nat) : Int) ≤ 3)))]) rfl ?_
  refine x_ifP_ne (P := 0 ≤ ((i : Nat) : Int) ∧ ((i : Nat) : Int) ≤ 3) inferInstance (tgt := 10) dX7_dine_4 (by decide) (fun hv2 => ?_) (fun hv2 => ?_)
  · refine x_aload_n dX7_dine_10 rfl ?_
    refine x_get (v := .ref 31) f_X7_45 k0 rfl dX7_dine_11 ?_
    refine x_iload_n dX7_dine_14 rfl ?_
    refine x_aald (Or.inr rfl) g31 rfl (sh_aa hi4) dX7_dine_15 ?_
    refine x_get (v := .int ((sh i).1)) f_X7_179 s0 rfl dX7_dine_16 ?_
    refine x_iconst (v := (-1)) dX7_dine_19 (by decide) ?_
    refine x_icmpT_ne (p := ((sh i).1).toInt) (q := (-1)) (tgt := 26) rfl (by decide) dX7_dine_20 (by decide) (fun hv3 => ?_) (fun hv3 => ?_)
    · refine x_aload_n dX7_dine_26 rfl ?_
      refine x_aload_n dX7_dine_27 rfl ?_
      refine x_get (v := .ref 31) f_X7_45 k0 rfl dX7_dine_28 ?_
      refine x_iload_n dX7_dine_31 rfl ?_
      refine x_aald (Or.inr rfl) g31 rfl (sh_aa hi4) dX7_dine_32 ?_
      refine x_callV m_X7_isTable l_X7_156 (c_isTable k0 h hr1 hl40 (by omega) (by omega) s0 s1 hz40 hJ hne') rfl k0 (by omega) rfl rfl (Nat.le_of_ble_eq_true rfl) ⟨Nat.le_refl _, Nat.le_refl _⟩ dX7_dine_33 (fun r4 s4 q4 => ?_)
      obtain ⟨rfl, J4, T4, F4⟩ := q4
      refine x_stk (st' := [.int (bI ((tbS n (sh i).2.2 (sh i).2.1).isSome))]) rfl ?_
      refine x_ifB_ne (tgt := 42) dX7_dine_36 (by decide) (fun hv5 => ?_) (fun hv5 => ?_)
      · exact absurd (hv5.symm.trans (congrArg Option.isSome hA9)) (fun z => Bool.noConfusion z)
      · refine x_bipush (v := (-2)) dX7_dine_39 (by decide) ?_
        exact x_iret ⟨Nat.le_refl _, Nat.le_refl _⟩ rfl dX7_dine_41 ⟨rfl, J4, (Fr.rf.tr (F4.mono (fun i hi => by omega)))⟩
    · exact absurd hv3 (by omega)
  · exact absurd hv2 (by omega)
set_option maxHeartbeats 4000000 in
theorem c_dine_m {σ : ZS} {tx ik : Int32} (k0 : zg σ 0 = some (.inr (.inr (6, [.ref 1, .ref 6, .ref 11, .ref 16, .ref 22, .ref 28, .ref 31, .int tx, .int ik])))) {rr dn ru n : Nat} {K N : List Nat} {W : List Int32} {D : List Nat} (h : Pa σ 1 (nI rr) (nI dn) (nI ru) n K N W D) (hr1 : rr ≤ 1) (hJ : SeJ σ) {sh : Nat → SH} (hS : CSH σ sh) (hG : SHG sh) {i : Nat} (hi4 : i < 4) (hb : (sh i).1 = -1) : Cn 5 M_X7_dine 0 0 [.ref 0, .int (nI i)] σ (fun r9 σ' => r9 = some (.int (-11)) ∧ σ' = σ) := by
  obtain ⟨g31, hS2⟩ := id hS
  obtain ⟨s0, s1⟩ := hS2 i hi4
  obtain ⟨hso9, hz40, hl40⟩ := hG i hi4
  obtain ⟨bw8, am8, sz8, rd8, jd8, fd8, en8, e0⟩ := hJ.ok
  refine Cn.intro (lv0 := [some (.ref 0), some (.int (nI i))]) rfl (Nat.le_of_ble_eq_true rfl) rfl (fun d hd => ?_)
  refine x_iload_n dX7_dine_0 rfl ?_
  refine x_callS m_X7_isSheet l_X7_153 (c_isSheetP (p := ((i : Nat) : Int)) (nI_toInt (by omega))) (by omega) rfl rfl (Nat.le_of_ble_eq_true rfl) ⟨Nat.le_refl _, Nat.le_refl _⟩ dX7_dine_1 (fun r1 s1 q1 => ?_)
  obtain ⟨rfl, eq1⟩ := q1
  obtain rfl := eq1.symm
  refine x_stk (st' := [.int (bI (decide (0 ≤ ((i : Nat) : Int) ∧ ((i : Nat) : Int) ≤ 3)))]) rfl ?_
  refine x_ifP_ne (P := 0 ≤ ((i : Nat) : Int) ∧ ((i : Nat) : Int) ≤ 3) inferInstance (tgt := 10) dX7_dine_4 (by decide) (fun hv2 => ?_) (fun hv2 => ?_)
  · refine x_aload_n dX7_dine_10 rfl ?_
    refine x_get (v := .ref 31) f_X7_45 k0 rfl dX7_dine_11 ?_
    refine x_iload_n dX7_dine_14 rfl ?_
    refine x_aald (Or.inr rfl) g31 rfl (sh_aa hi4) dX7_dine_15 ?_
    refine x_get (v := .int ((sh i).1)) f_X7_179 s0 rfl dX7_dine_16 ?_
    refine x_iconst (v := (-1)) dX7_dine_19 (by decide) ?_
    refine x_icmpT_ne (p := ((sh i).1).toInt) (q := (-1)) (tgt := 26) rfl (by decide) dX7_dine_20 (by decide) (fun hv3 => ?_) (fun hv3 => ?_)
    · exact absurd (by rw [hb]; decide) hv3
    · refine x_bipush (v := (-11)) dX7_dine_23 (by decide) ?_
      exact x_iret ⟨Nat.le_refl _, Nat.le_refl _⟩ rfl dX7_dine_25 ⟨rfl, rfl⟩
  · exact absurd hv2 (by omega)
set_option maxHeartbeats 4000000 in
theorem c_dine_b {σ : ZS} {tx ik : Int32} (k0 : zg σ 0 = some (.inr (.inr (6, [.ref 1, .ref 6, .ref 11, .ref 16, .ref 22, .ref 28, .ref 31, .int tx, .int ik])))) {x : Int32} (hb : ¬ (0 ≤ x.toInt ∧ x.toInt ≤ 3)) : Cn 5 M_X7_dine 0 0 [.ref 0, .int x] σ (fun r9 σ' => r9 = some (.int (-2)) ∧ σ' = σ) := by
  refine Cn.intro (lv0 := [some (.ref 0), some (.int x)]) rfl (Nat.le_of_ble_eq_true rfl) rfl (fun d hd => ?_)
  refine x_iload_n dX7_dine_0 rfl ?_
  refine x_callS m_X7_isSheet l_X7_153 (c_isSheetP (p := (x).toInt) rfl) (by omega) rfl rfl (Nat.le_of_ble_eq_true rfl) ⟨Nat.le_refl _, Nat.le_refl _⟩ dX7_dine_1 (fun r1 s1 q1 => ?_)
  obtain ⟨rfl, eq1⟩ := q1
  obtain rfl := eq1.symm
  refine x_stk (st' := [.int (bI (decide (0 ≤ (x).toInt ∧ (x).toInt ≤ 3)))]) rfl ?_
  refine x_ifP_ne (P := 0 ≤ (x).toInt ∧ (x).toInt ≤ 3) inferInstance (tgt := 10) dX7_dine_4 (by decide) (fun hv2 => ?_) (fun hv2 => ?_)
  · exact absurd hv2 (by omega)
  · refine x_bipush (v := (-2)) dX7_dine_7 (by decide) ?_
    exact x_iret ⟨Nat.le_refl _, Nat.le_refl _⟩ rfl dX7_dine_9 ⟨rfl, rfl⟩
