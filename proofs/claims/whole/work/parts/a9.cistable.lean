/-! the class: tables that are told -/
theorem ffrom_cg {f g : Nat → Bool} : ∀ (q k : Nat), (∀ s, k ≤ s → s < k + q → f s = g s) → ffrom f q k = ffrom g q k
  | 0, _, _ => rfl
  | q + 1, k, h => by rw [ffrom, ffrom, h k (Nat.le_refl _) (by omega), ffrom_cg q (k + 1) (fun s h1 h2 => h s (by omega) (by omega))]
theorem sumI_cg {f g : Nat → Int32} : ∀ (k : Nat), (∀ s, s < k → f s = g s) → sumI f k = sumI g k
  | 0, _ => rfl
  | k + 1, h => by rw [sumI_succ, sumI_succ, sumI_cg k (fun s hs => h s (by omega)), h k (by omega)]
theorem jyI_eqm {S : List Nat} {jf : Nat} {K N : List Nat} {W : List Int32} {D t t' : List Nat} {m k : Nat} (h : EqM m t t') (hk : k < m) : jyI S jf K N W D t m k = jyI S jf K N W D t' m k := by
  rw [jyI, jyI, h k hk, h _ (nxS_lt hk)]
theorem hdD_eqm {S : List Nat} {lf jf : Nat} {K N : List Nat} {W : List Int32} {D t t' : List Nat} {m : Nat} (h : EqM m t t') : ∀ k, k ≤ m → hdD S lf jf K N W t m k D = hdD S lf jf K N W t' m k D
  | 0, _ => rfl
  | k + 1, hk => by rw [hdD, hdD, h k (by omega), h _ (nxS_lt (by omega)), hdD_eqm h k (by omega)]
/-- the seating where a told table is laid -/
def SeT (σ : ZS) (A m : Nat) (r : Bool) (wl : List (Option Nat)) (t0 : List Nat) : Prop := ∃ (bw jd fd en : Int32) (t B : List Nat) (Wo Ho : List Int32), Se σ bw (nI A) (nI m) (bI r) jd fd en (t.map nI) (wl.map oI) (B.map nI) Wo Ho ∧ T7 t ∧ T7 B ∧ EqM m t t0
theorem SeT.j {σ : ZS} {A m : Nat} {r : Bool} {wl : List (Option Nat)} {t0 : List Nat} (h : SeT σ A m r wl t0) : SeJ σ := by
  obtain ⟨bw, jd, fd, en, t, B, Wo, Ho, h, h1, h2, -⟩ := h
  exact ⟨_, _, _, _, _, _, _, t, B, _, Wo, Ho, h, h1, h2⟩
theorem SeT.fr {σ σ' : ZS} {P : Nat → Prop} {A m : Nat} {r : Bool} {wl : List (Option Nat)} {t0 : List Nat} (h : SeT σ A m r wl t0) (hF : Fr P σ σ') (hP : ∀ i, 22 ≤ i ∧ i ≤ 27 → ¬ P i) : SeT σ' A m r wl t0 := by
  obtain ⟨bw, jd, fd, en, t, B, Wo, Ho, h, h1⟩ := h
  exact ⟨bw, jd, fd, en, t, B, Wo, Ho, h.fr hF hP, h1⟩
theorem tbS_no {n : Nat} {row : List Int32} {k m A : Nat} (h : tbS n row k = some A) (hk : k < m) (hb : ¬ ((0 ≤ (row.getD k 0).toInt ∧ (row.getD k 0).toInt < (n : Int)) ∧ A.testBit (row.getD k 0).toInt.toNat = false)) : tbS n row m = none := by
  refine tbS_none (k := k + 1) (by omega) ?_
  rw [tbS, h]
  exact if_neg hb
theorem tbS_yes {n : Nat} {row : List Int32} {k A p : Nat} (h : tbS n row k = some A) (hp : row.getD k 0 = nI p) (hp7 : p < 7) (hpn : p < n) (hb : A.testBit p = false) : tbS n row (k + 1) = some (A ||| 2 ^ p) := by
  have e : (nI p).toInt = (p : Int) := nI_toInt (by omega)
  rw [tbS, h, hp]
  simp only [e, Int.toNat_natCast]
  exact if_pos ⟨⟨by omega, by omega⟩, hb⟩
theorem T7.put {t : List Nat} {k p : Nat} (h : T7 t) (hp : p < 7) : T7 (t.set k p) := by
  refine ⟨by rw [List.length_set]; exact h.1, fun i => ?_⟩
  rw [getD_set]
  split
  · exact hp
  · exact h.2 i
theorem EqM.put {k p : Nat} {t t0 : List Nat} (h : EqM k t t0) (hk : k < t.length) (hp : t0.getD k 0 = p) : EqM (k + 1) (t.set k p) t0 := by
  intro i hi
  rw [getD_set]
  by_cases e : k = i
  · rw [if_pos ⟨e, hk⟩, ← e, hp]
  · rw [if_neg (fun z => e z.1)]; exact h i (by omega)
set_option maxHeartbeats 4000000 in
theorem l_isTable {σ0 : ZS} {tx ik : Int32} {rr dn ru n : Nat} {K N : List Nat} {W : List Int32} {D : List Nat} (hr1 : rr ≤ 1) {r q0 sz : Nat} {so : Int32} {row : List Int32} (hl : row.length = 40) (hr : 31 ≤ r ∧ r ≤ 39) (hq0 : 31 ≤ q0 ∧ q0 ≤ 39) (hszn : sz ≤ n) {bw am sz9 rd jd fd en : Int32} {B : List Nat} {Wi Wo Ho : List Int32} (hB : T7 B) {d : Nat} (hd : 4 ≤ d) : ∀ (q k : Nat) (A : Nat) (t : List Nat) (σ : ZS) (k0 : zg σ 0 = some (.inr (.inr (6, [.ref 1, .ref 6, .ref 11, .ref 16, .ref 22, .ref 28, .ref 31, .int tx, .int ik])))) (h : Pa σ 1 (nI rr) (nI dn) (nI ru) n K N W D) (g0 : zg σ r = some (.inr (.inr (5, [.int so, .int (nI sz), .ref q0])))) (g1 : zg σ q0 = some (.inl (0, row))) (hSe : Se σ bw am sz9 rd jd fd en (t.map nI) Wi (B.map nI) Wo Ho) (ht : T7 t) (hE : EqM k t (tOf row sz)) (hA : tbS n row k = some A) (hF : Fr (fun i => 22 ≤ i ∧ i ≤ 25) σ0 σ), k + q = sz → X M_X7_isTable d 0 0 (fun r9 σ' => r9 = some (.int (bI (tbS n row sz).isSome)) ∧ SeJ σ' ∧ (∀ A, tbS n row sz = some A → SeT σ' A sz (decide (rr = 1)) (wlS K N D n A (-1)) (tOf row sz)) ∧ Fr (fun i => 22 ≤ i ∧ i ≤ 25) σ0 σ') 0 0 28 [some (.ref 0), some (.ref r), some (.int (nI A)), some (.int (nI k)), none] [] σ := by
  intro q
  induction q with
  | zero =>
    intro k A t σ k0 h g0 g1 hSe ht hE hA hF hk
    obtain ⟨e0, e1, e2, e3, e4, e5, l1, l2, l3, l4, l5⟩ := id hSe
    have hn7 := h.2.2.2.2.2.1
    have hA7 := Nat.lt_of_lt_of_le (tbS_ok hn7 hA).2.1 (two_le hn7)
    refine x_iload_n dX7_isTable_28 rfl ?_
    refine x_aload_n dX7_isTable_29 rfl ?_
    refine x_get (v := .int (nI sz)) f_X7_182 g0 rfl dX7_isTable_30 ?_
    refine x_icmpN_ge (tgt := 97) dX7_isTable_33 (by decide) (by omega) (by omega) (fun hv1 => ?_) (fun hv1 => ?_)
    · refine x_aload_n dX7_isTable_97 rfl ?_
      refine x_get (v := .ref 22) f_X7_32 k0 rfl dX7_isTable_98 ?_
      refine x_aload_n dX7_isTable_101 rfl ?_
      refine x_get (v := .ref 1) f_X7_10 k0 rfl dX7_isTable_102 ?_
      refine x_iload_n dX7_isTable_105 rfl ?_
      refine x_iconst (v := (-1)) dX7_isTable_106 (by decide) ?_
      refine x_callV m_X5_invite l_X7_192 (c_invite hSe h hr1 (Or.inl rfl) (A := A) (e := (-1)) (Nat.lt_of_lt_of_le (tbS_ok hn7 hA).2.1 (two_le hn7))) rfl e0 (by omega) rfl rfl (Nat.le_of_ble_eq_true rfl) ⟨Nat.le_refl _, Nat.le_refl _⟩ dX7_isTable_107 (fun r2 s2 q2 => ?_)
      obtain ⟨rfl, S2, F2⟩ := q2
      refine x_stk (st' := []) rfl ?_
      refine x_iconst (v := nI 1) dX7_isTable_110 (by decide) ?_
      exact x_zret ⟨Nat.le_refl _, Nat.le_refl _⟩ rfl (by decide) dX7_isTable_111 (by
    obtain rfl : k = sz := by omega
    rw [(tbS_ok hn7 hA).2.2.1] at S2
    exact ⟨by rw [hA]; rfl, ⟨_, _, _, _, _, _, _, _, _, _, _, _, S2, ht, hB⟩, fun A9 hA9 => (by rw [hA] at hA9; cases hA9; exact ⟨_, _, _, _, _, _, _, _, S2, ht, hB, hE⟩), hF.tr (Fr.rf.tr (F2.mono (fun i hi => by omega)))⟩)
    · exact absurd hv1 (by omega)
  | succ q ih =>
    intro k A t σ k0 h g0 g1 hSe ht hE hA hF hk
    obtain ⟨e0, e1, e2, e3, e4, e5, l1, l2, l3, l4, l5⟩ := id hSe
    have hn7 := h.2.2.2.2.2.1
    have hA7 := Nat.lt_of_lt_of_le (tbS_ok hn7 hA).2.1 (two_le hn7)
    refine x_iload_n dX7_isTable_28 rfl ?_
    refine x_aload_n dX7_isTable_29 rfl ?_
    refine x_get (v := .int (nI sz)) f_X7_182 g0 rfl dX7_isTable_30 ?_
    refine x_icmpN_ge (tgt := 97) dX7_isTable_33 (by decide) (by omega) (by omega) (fun hv1 => ?_) (fun hv1 => ?_)
    · exact absurd hv1 (by omega)
    · refine x_iload_n dX7_isTable_36 rfl ?_
      refine x_bipush (v := nI 7) dX7_isTable_37 (by decide) ?_
      refine x_icmpN_ge (tgt := 97) dX7_isTable_39 (by decide) (by omega) (by omega) (fun hv2 => ?_) (fun hv2 => ?_)
      · exact absurd hv2 (by omega)
      · refine x_aload_n dX7_isTable_42 rfl ?_
        refine x_get (v := .ref q0) f_X7_183 g0 rfl dX7_isTable_43 ?_
        refine x_iload_n dX7_isTable_46 rfl ?_
        refine x_iald (n := k) g1 rfl (by rw [hl]; omega) dX7_isTable_47 ?_
        refine x_istore dX7_isTable_48 (by decide) rfl ?_
        refine x_lv (lv' := [some (.ref 0), some (.ref r), some (.int (nI A)), some (.int (nI k)), some (.int ((row.getD k 0)))]) rfl ?_
        refine x_aload_n dX7_isTable_50 rfl ?_
        refine x_get (v := .ref 1) f_X7_10 k0 rfl dX7_isTable_51 ?_
        refine x_iload dX7_isTable_54 rfl ?_
        refine x_callV m_X2_has l_X7_82 (c_hasP h (p := ((row.getD k 0)).toInt) rfl) rfl h.1 (by omega) rfl rfl (Nat.le_of_ble_eq_true rfl) ⟨Nat.le_refl _, Nat.le_refl _⟩ dX7_isTable_56 (fun r3 s3 q3 => ?_)
        obtain ⟨rfl, eq3⟩ := q3
        obtain rfl := eq3.symm
        refine x_stk (st' := [.int (bI (decide (0 ≤ ((row.getD k 0)).toInt ∧ ((row.getD k 0)).toInt < (n : Int))))]) rfl ?_
        refine x_ifP_eq (P := 0 ≤ ((row.getD k 0)).toInt ∧ ((row.getD k 0)).toInt < (n : Int)) inferInstance (tgt := 71) dX7_isTable_59 (by decide) (fun hv4 => ?_) (fun hv4 => ?_)
        · refine x_iconst (v := nI 0) dX7_isTable_71 (by decide) ?_
          exact x_zret ⟨Nat.le_refl _, Nat.le_refl _⟩ rfl (by decide) dX7_isTable_72 (by
    have e9 := tbS_no hA (show k < sz by omega) (fun z => hv4 z.1)
    exact ⟨by rw [e9]; rfl, ⟨_, _, _, _, _, _, _, _, _, _, _, _, hSe, ht, hB⟩, fun A9 hA9 => (by rw [e9] at hA9; cases hA9), hF⟩)
        · obtain ⟨p, hp1, hp2⟩ : ∃ p : Nat, p < n ∧ row.getD k 0 = nI p := ⟨(row.getD k 0).toInt.toNat, by omega, ni_of hv4.1⟩
          refine x_lv (lv' := [some (.ref 0), some (.ref r), some (.int (nI A)), some (.int (nI k)), some (.int (nI p))]) (by rw [hp2]) ?_
          refine x_iload_n dX7_isTable_62 rfl ?_
          refine x_iload dX7_isTable_63 rfl ?_
          refine x_callS m_X2_isIn l_X7_186 (c_isIn (by omega) (by omega)) (by omega) rfl rfl (Nat.le_of_ble_eq_true rfl) ⟨Nat.le_refl _, Nat.le_refl _⟩ dX7_isTable_65 (fun r5 s5 q5 => ?_)
          obtain ⟨rfl, eq5⟩ := q5
          obtain rfl := eq5.symm
          refine x_stk (st' := [.int (bI ((A.testBit p)))]) rfl ?_
          refine x_ifB_eq (tgt := 73) dX7_isTable_68 (by decide) (fun hv6 => ?_) (fun hv6 => ?_)
          · refine x_iload_n dX7_isTable_73 rfl ?_
            refine x_iconst (v := nI 1) dX7_isTable_74 (by decide) ?_
            refine x_iload dX7_isTable_75 rfl ?_
            refine x_ishl dX7_isTable_77 ?_
            refine x_topi (y := nI (2 ^ p)) (z_shl1 (by omega)) ?_
            refine x_iorN dX7_isTable_78 ?_
            refine x_istore_n dX7_isTable_79 (by decide) rfl ?_
            refine x_lv (lv' := [some (.ref 0), some (.ref r), some (.int (nI (A ||| (2 ^ p)))), some (.int (nI k)), some (.int (nI p))]) rfl ?_
            refine x_aload_n dX7_isTable_80 rfl ?_
            refine x_get (v := .ref 22) f_X7_32 k0 rfl dX7_isTable_81 ?_
            refine x_get (v := .ref 23) f_X7_189 e0 rfl dX7_isTable_84 ?_
            refine x_iload_n dX7_isTable_87 rfl ?_
            refine x_iload dX7_isTable_88 rfl ?_
            refine x_iastK (n := k) e1 rfl (by rw [List.length_map, ht.1]; omega) dX7_isTable_90 (fun sw7 gw7 Fw7 => ?_)
            refine x_iincN dX7_isTable_91 rfl (by decide) rfl ?_
            refine x_lv (lv' := [some (.ref 0), some (.ref r), some (.int (nI (A ||| (2 ^ p)))), some (.int (nI (k + 1))), some (.int (nI p))]) rfl ?_
            refine x_goto (tgt := 28) dX7_isTable_94 (by decide) ?_
            refine x_drop 4 ?_
            have hy := tbS_yes hA hp2 (by omega) hp1 hv6
            have ht9 : (tOf row sz).getD k 0 = p := by rw [tOf_get (by omega), if_pos (by omega), hp2, nI_toInt (by omega)]; omega
            exact ih (k + 1) (A ||| 2 ^ p) _ sw7 (Fw7.at (by omega) k0) (h.fr Fw7 (by omega)) (Fw7.at (by omega) g0) (Fw7.at (by omega) g1) ⟨(Fw7.at (by omega) e0), (gma gw7), Fw7.at (by omega) e2, Fw7.at (by omega) e3, Fw7.at (by omega) e4, Fw7.at (by omega) e5, by simp only [List.length_map, List.length_set]; exact ht.1, l2, l3, l4, l5⟩ (ht.put (by omega)) (hE.put (by rw [ht.1]; omega) ht9) hy (hF.tr (Fr.rf.tr (Fw7.mono (fun i hi => by omega)))) (by omega)
          · refine x_iconst (v := nI 0) dX7_isTable_71 (by decide) ?_
            exact x_zret ⟨Nat.le_refl _, Nat.le_refl _⟩ rfl (by decide) dX7_isTable_72 (by
    have e9 := tbS_no hA (show k < sz by omega) (fun z => by rw [hp2, nI_toInt (by omega)] at z; have z2 := z.2; rw [Int.toNat_natCast] at z2; rw [hv6] at z2; cases z2)
    exact ⟨by rw [e9]; rfl, ⟨_, _, _, _, _, _, _, _, _, _, _, _, hSe, ht, hB⟩, fun A9 hA9 => (by rw [e9] at hA9; cases hA9), hF⟩)
set_option maxHeartbeats 4000000 in
theorem c_isTable {σ : ZS} {tx ik : Int32} (k0 : zg σ 0 = some (.inr (.inr (6, [.ref 1, .ref 6, .ref 11, .ref 16, .ref 22, .ref 28, .ref 31, .int tx, .int ik])))) {rr dn ru n : Nat} {K N : List Nat} {W : List Int32} {D : List Nat} (h : Pa σ 1 (nI rr) (nI dn) (nI ru) n K N W D) (hr1 : rr ≤ 1) {r q0 sz : Nat} {so : Int32} {row : List Int32} (hl : row.length = 40) (hr : 31 ≤ r ∧ r ≤ 39) (hq0 : 31 ≤ q0 ∧ q0 ≤ 39) (g0 : zg σ r = some (.inr (.inr (5, [.int so, .int (nI sz), .ref q0])))) (g1 : zg σ q0 = some (.inl (0, row))) (hz : sz ≤ 40) (hJ : SeJ σ) (hne : ¬ so.toInt = -1) : Cn 4 M_X7_isTable 0 0 [.ref 0, .ref r] σ (fun r9 σ' => r9 = some (.int (bI (tbS n row sz).isSome)) ∧ SeJ σ' ∧ (∀ A, tbS n row sz = some A → SeT σ' A sz (decide (rr = 1)) (wlS K N D n A (-1)) (tOf row sz)) ∧ Fr (fun i => 22 ≤ i ∧ i ≤ 25) σ σ') := by
  obtain ⟨bw, am, sz9, rd, jd, fd, en, t, B, Wi, Wo, Ho, hSe, ht, hB⟩ := id hJ
  obtain ⟨e0, e1, e2, e3, e4, e5, l1, l2, l3, l4, l5⟩ := id hSe
  have hn7 := h.2.2.2.2.2.1
  refine Cn.intro (lv0 := [some (.ref 0), some (.ref r), none, none, none]) rfl (Nat.le_of_ble_eq_true rfl) rfl (fun d hd => ?_)
  refine x_aload_n dX7_isTable_0 rfl ?_
  refine x_get (v := .int so) f_X7_179 g0 rfl dX7_isTable_1 ?_
  refine x_iconst (v := (-1)) dX7_isTable_4 (by decide) ?_
  refine x_icmpT_eq (p := (so).toInt) (q := (-1)) (tgt := 22) rfl (by decide) dX7_isTable_5 (by decide) (fun hv1 => ?_) (fun hv1 => ?_)
  · exact absurd hv1 hne
  · refine x_aload_n dX7_isTable_8 rfl ?_
    refine x_get (v := .int (nI sz)) f_X7_182 g0 rfl dX7_isTable_9 ?_
    refine x_aload_n dX7_isTable_12 rfl ?_
    refine x_get (v := .ref 1) f_X7_10 k0 rfl dX7_isTable_13 ?_
    refine x_get (v := .int (nI n)) f_X7_98 h.1 rfl dX7_isTable_16 ?_
    refine x_icmpN_le (tgt := 24) dX7_isTable_19 (by decide) (by omega) (by omega) (fun hv2 => ?_) (fun hv2 => ?_)
    · refine x_iconst (v := nI 0) dX7_isTable_24 (by decide) ?_
      refine x_istore_n dX7_isTable_25 (by decide) rfl ?_
      refine x_lv (lv' := [some (.ref 0), some (.ref r), some (.int (nI 0)), none, none]) rfl ?_
      refine x_iconst (v := nI 0) dX7_isTable_26 (by decide) ?_
      refine x_istore_n dX7_isTable_27 (by decide) rfl ?_
      refine x_lv (lv' := [some (.ref 0), some (.ref r), some (.int (nI 0)), some (.int (nI 0)), none]) rfl ?_
      exact l_isTable (σ0 := σ) hr1 hl hr hq0 (by omega) hB hd sz 0 0 t σ k0 h g0 g1 hSe ht (fun i hi => absurd hi (by omega)) rfl Fr.rf (by omega)
    · refine x_iconst (v := nI 0) dX7_isTable_22 (by decide) ?_
      exact x_zret ⟨Nat.le_refl _, Nat.le_refl _⟩ rfl (by decide) dX7_isTable_23 (by
    have e9 : tbS n row sz = none := by
      cases hx : tbS n row sz with
      | none => rfl
      | some A => exact absurd (tbS_ok h.2.2.2.2.2.1 hx).1 (by omega)
    exact ⟨by rw [e9]; rfl, ⟨_, _, _, _, _, _, _, _, _, _, _, _, hSe, ht, hB⟩, fun A9 hA9 => (by rw [e9] at hA9; cases hA9), Fr.rf⟩)
set_option maxHeartbeats 4000000 in
theorem c_isTable_m {σ : ZS} {tx ik : Int32} (k0 : zg σ 0 = some (.inr (.inr (6, [.ref 1, .ref 6, .ref 11, .ref 16, .ref 22, .ref 28, .ref 31, .int tx, .int ik])))) {rr dn ru n : Nat} {K N : List Nat} {W : List Int32} {D : List Nat} (h : Pa σ 1 (nI rr) (nI dn) (nI ru) n K N W D) (hr1 : rr ≤ 1) {r q0 sz : Nat} {so : Int32} {row : List Int32} (hl : row.length = 40) (hr : 31 ≤ r ∧ r ≤ 39) (hq0 : 31 ≤ q0 ∧ q0 ≤ 39) (g0 : zg σ r = some (.inr (.inr (5, [.int so, .int (nI sz), .ref q0])))) (g1 : zg σ q0 = some (.inl (0, row))) (hb : so.toInt = -1) : Cn 4 M_X7_isTable 0 0 [.ref 0, .ref r] σ (fun r9 σ' => r9 = some (.int (nI 0)) ∧ σ' = σ) := by
  refine Cn.intro (lv0 := [some (.ref 0), some (.ref r), none, none, none]) rfl (Nat.le_of_ble_eq_true rfl) rfl (fun d hd => ?_)
  refine x_aload_n dX7_isTable_0 rfl ?_
  refine x_get (v := .int so) f_X7_179 g0 rfl dX7_isTable_1 ?_
  refine x_iconst (v := (-1)) dX7_isTable_4 (by decide) ?_
  refine x_icmpT_eq (p := (so).toInt) (q := (-1)) (tgt := 22) rfl (by decide) dX7_isTable_5 (by decide) (fun hv1 => ?_) (fun hv1 => ?_)
  · refine x_iconst (v := nI 0) dX7_isTable_22 (by decide) ?_
    exact x_zret ⟨Nat.le_refl _, Nat.le_refl _⟩ rfl (by decide) dX7_isTable_23 ⟨rfl, rfl⟩
  · exact absurd hb hv1
