/-! the class: run -/
theorem c_layF {σ : ZS} {A m : Nat} {r : Bool} {wl : List (Option Nat)} {v : Nat → Nat → Nat → Int32} {o : Option (List Nat)} (h : SeF σ A m r wl v o) (hm : m ≤ 7) (hw : W7 wl) {y : List Nat} (hy : o = some y) : Cn 1 M_X5_layBest 0 0 [.ref 22] σ (fun r9 σ' => r9 = none ∧ SeT σ' A m r wl y ∧ Fr (fun i => 22 ≤ i ∧ i ≤ 25) σ σ') := by
  obtain ⟨bw, jd, fd, en, t, B, Wo, Ho, h, h1, h2, h3⟩ := h
  refine (c_layBest h hm h1 hw h2).mono (fun r9 σ' hq => ?_)
  obtain ⟨e1, e2, e3⟩ := hq
  refine ⟨e1, ⟨bw, jd, fd, en, _, B, Wo, Ho, e2, cpN_ok h2 h1, h2, fun i hi => ?_⟩, e3⟩
  rw [cpN_get (by omega), if_pos hi]
  exact (h3 y hy).2 i hi
theorem SeF.ok {σ : ZS} {A m : Nat} {r : Bool} {wl : List (Option Nat)} {v : Nat → Nat → Nat → Int32} {o : Option (List Nat)} (h : SeF σ A m r wl v o) : ∃ (bw jd fd en : Int32), zg σ 22 = some (.inr (.inr (4, [.ref 23, .ref 24, .ref 25, .int bw, .int (nI A), .int (nI m), .int (bI r), .int jd, .int fd, .int en, .ref 26, .ref 27]))) := by
  obtain ⟨bw, jd, fd, en, t, B, Wo, Ho, h, -⟩ := h
  exact ⟨bw, jd, fd, en, h.1⟩
theorem runS_n {rr n : Nat} {K N : List Nat} {W : List Int32} {S : List Nat} {lf jf q : Nat} {D : List Nat} (h : (bstB (totB (vW false S lf jf K N W D n) (decide (rr = 1)) n) (lwf (decide (rr = 1)) (2 ^ n - 1) (wlS K N D n (2 ^ n - 1) (-1)))) = none) : runS rr n K N W S lf jf (q + 1) D = (0, D) := by rw [runS, h]
theorem runS_s {rr n : Nat} {K N : List Nat} {W : List Int32} {S : List Nat} {lf jf q : Nat} {D : List Nat} {y : List Nat} (h : (bstB (totB (vW false S lf jf K N W D n) (decide (rr = 1)) n) (lwf (decide (rr = 1)) (2 ^ n - 1) (wlS K N D n (2 ^ n - 1) (-1)))) = some y) : runS rr n K N W S lf jf (q + 1) D = ((runS rr n K N W S lf jf q (hdD S lf jf K N W y n (prS (decide (rr = 1)) n) D)).1 + 1, (runS rr n K N W S lf jf q (hdD S lf jf K N W y n (prS (decide (rr = 1)) n) D)).2) := by rw [runS, h]
set_option maxHeartbeats 4000000 in
theorem l_run0 {σ0 : ZS} {tx ik : Int32} {rr dn ru n : Nat} {K N : List Nat} {W : List Int32} (hr1 : rr ≤ 1) {ri si ki : Nat} {S : List Nat} {lf jf cnt : Nat} (hc20 : cnt ≤ 20) {d : Nat} (hd : 13 ≤ d) : ∀ (q k : Nat) (D : List Nat) (σ : ZS) (k0 : zg σ 0 = some (.inr (.inr (6, [.ref 1, .ref 6, .ref 11, .ref 16, .ref 22, .ref 28, .ref 31, .int tx, .int ik])))) (hT : Pa σ 11 (nI rr) (nI dn) (nI ru) n K N W D) (hM : MaW σ ru ri si ki S lf jf) (hJ : SeJ σ) (hF : Fr (fun i => i = 18 ∨ i = ki ∨ (11 ≤ i ∧ i ≤ 15) ∨ (22 ≤ i ∧ i ≤ 27)) σ0 σ), k + q = cnt → X M_X7_run d 0 0 (fun r9 σ' => r9 = some (.int (nI (k + (runS rr n K N W S lf jf q D).1))) ∧ SeJ σ' ∧ PaJ σ' 11 ∧ MaW σ' ru ri si ki S lf jf ∧ Fr (fun i => i = 18 ∨ i = ki ∨ (11 ≤ i ∧ i ≤ 15) ∨ (22 ≤ i ∧ i ≤ 27)) σ0 σ') 0 0 35 [some (.ref 0), some (.int (nI cnt)), some (.int (nI 0)), some (.int (nI k))] [] σ := by
  intro q
  induction q with
  | zero =>
    intro k D σ k0 hT hM hJ hF hk
    obtain ⟨bw8, am8, sz8, rd8, jd8, fd8, en8, e0⟩ := hJ.ok
    have hn7 := hT.2.2.2.2.2.1
    have hloc := hM.2.2.2.2.2.1
    refine x_iload_n dX7_run_35 rfl ?_
    refine x_iload_n dX7_run_36 rfl ?_
    refine x_icmpN_ge (tgt := 79) dX7_run_37 (by decide) (by omega) (by omega) (fun hv1 => ?_) (fun hv1 => ?_)
    · refine x_iload_n dX7_run_79 rfl ?_
      refine x_ifN_ne (tgt := 85) dX7_run_80 (by decide) (by omega) (fun hv2 => ?_) (fun hv2 => ?_)
      · exact absurd hv2 (by decide)
      · refine x_iload_n dX7_run_83 rfl ?_
        exact x_iret ⟨Nat.le_refl _, Nat.le_refl _⟩ rfl dX7_run_84 ⟨rfl, hJ, ⟨_, _, _, _, _, _, _, _, hT⟩, hM, hF⟩
    · exact absurd hv1 (by omega)
  | succ q ih =>
    intro k D σ k0 hT hM hJ hF hk
    obtain ⟨bw8, am8, sz8, rd8, jd8, fd8, en8, e0⟩ := hJ.ok
    have hn7 := hT.2.2.2.2.2.1
    have hloc := hM.2.2.2.2.2.1
    refine x_iload_n dX7_run_35 rfl ?_
    refine x_iload_n dX7_run_36 rfl ?_
    refine x_icmpN_ge (tgt := 79) dX7_run_37 (by decide) (by omega) (by omega) (fun hv1 => ?_) (fun hv1 => ?_)
    · exact absurd hv1 (by omega)
    · refine x_aload_n dX7_run_40 rfl ?_
      refine x_aload_n dX7_run_41 rfl ?_
      refine x_get (v := .ref 11) f_X7_19 k0 rfl dX7_run_42 ?_
      refine x_callV m_X7_isGladdest l_X7_200 (c_gladdest k0 (Or.inr rfl) hT hr1 hM hJ) rfl k0 (by omega) rfl rfl (Nat.le_of_ble_eq_true rfl) ⟨Nat.le_refl _, Nat.le_refl _⟩ dX7_run_45 (fun r2 s2 q2 => ?_)
      obtain ⟨rfl, Q2, P2, M2, F2⟩ := q2
      obtain ⟨bw2, jd2, fd2, en2, e0_2⟩ := Q2.ok
      refine x_stk (st' := [.int (bI ((bstB (totB (vW false S lf jf K N W D n) (decide (rr = 1)) n) (lwf (decide (rr = 1)) (2 ^ n - 1) (wlS K N D n (2 ^ n - 1) (-1)))).isSome))]) rfl ?_
      refine x_ifB_eq (tgt := 79) dX7_run_48 (by decide) (fun hv3 => ?_) (fun hv3 => ?_)
      · refine x_iload_n dX7_run_79 rfl ?_
        refine x_ifN_ne (tgt := 85) dX7_run_80 (by decide) (by omega) (fun hv4 => ?_) (fun hv4 => ?_)
        · exact absurd hv4 (by decide)
        · refine x_iload_n dX7_run_83 rfl ?_
          exact x_iret ⟨Nat.le_refl _, Nat.le_refl _⟩ rfl dX7_run_84 ⟨by (rw [runS_n (isn hv3)]) <;> rfl, Q2.j, ⟨_, _, _, _, _, _, _, _, P2⟩, M2, hF.tr (Fr.rf.tr (F2.mono (fun i hi => by omega)))⟩
      · obtain ⟨y, hy⟩ := Option.isSome_iff_exists.mp hv3
        refine x_aload_n dX7_run_51 rfl ?_
        refine x_get (v := .ref 22) f_X7_32 (F2.at (by omega) k0) rfl dX7_run_52 ?_
        refine x_callV m_X5_layBest l_X7_242 (c_layF Q2 hn7 (wlS_ok hn7) hy) rfl e0_2 (by omega) rfl rfl (Nat.le_of_ble_eq_true rfl) ⟨Nat.le_refl _, Nat.le_refl _⟩ dX7_run_55 (fun r5 s5 q5 => ?_)
        obtain ⟨rfl, T5, F5⟩ := q5
        obtain ⟨bw5, jd5, fd5, en5, e0_5⟩ := T5.ok
        refine x_stk (st' := []) rfl ?_
        refine x_aload_n dX7_run_58 rfl ?_
        refine x_get (v := .ref 22) f_X7_32 (F5.at (by omega) (F2.at (by omega) k0)) rfl dX7_run_59 ?_
        refine x_aload_n dX7_run_62 rfl ?_
        refine x_get (v := .ref 16) f_X7_25 (F5.at (by omega) (F2.at (by omega) k0)) rfl dX7_run_63 ?_
        refine x_aload_n dX7_run_66 rfl ?_
        refine x_get (v := .ref 11) f_X7_19 (F5.at (by omega) (F2.at (by omega) k0)) rfl dX7_run_67 ?_
        refine x_callV m_X5_hold l_X7_172 (c_holdT T5 (Or.inr rfl) hn7 (wlS_ok hn7) (P2.fr F5 (by omega)) (M2.fr F5 (by omega))) rfl e0_5 (by omega) rfl rfl (Nat.le_of_ble_eq_true rfl) ⟨Nat.le_refl _, Nat.le_refl _⟩ dX7_run_70 (fun r6 s6 q6 => ?_)
        obtain ⟨rfl, P6, M6, F6⟩ := q6
        refine x_stk (st' := []) rfl ?_
        refine x_iincN dX7_run_73 rfl (by decide) rfl ?_
        refine x_lv (lv' := [some (.ref 0), some (.int (nI cnt)), some (.int (nI 0)), some (.int (nI (k + 1)))]) rfl ?_
        refine x_goto (tgt := 35) dX7_run_76 (by decide) ?_
        have e9 : nI (k + (runS rr n K N W S lf jf (q + 1) D).1) = nI ((k + 1) + (runS rr n K N W S lf jf q (hdD S lf jf K N W y n (prS (decide (rr = 1)) n) D)).1) := by rw [runS_s hy]; show nI (k + ((runS rr n K N W S lf jf q (hdD S lf jf K N W y n (prS (decide (rr = 1)) n) D)).1 + 1)) = nI (k + 1 + (runS rr n K N W S lf jf q (hdD S lf jf K N W y n (prS (decide (rr = 1)) n) D)).1); exact congrArg nI (by omega)
        rw [e9]
        exact ih (k + 1) (hdD S lf jf K N W y n (prS (decide (rr = 1)) n) D) s6 (F6.at (by omega) (F5.at (by omega) (F2.at (by omega) k0))) P6 M6 (T5.j.fr F6 (by omega)) (hF.tr (((Fr.rf.tr (F2.mono (fun i hi => by omega))).tr (F5.mono (fun i hi => by omega))).tr (F6.mono (fun i hi => by omega)))) (by omega)
set_option maxHeartbeats 4000000 in
theorem l_run1 {σ0 : ZS} {tx ik : Int32} {rr dn ru n : Nat} {K N : List Nat} {W : List Int32} (hr1 : rr ≤ 1) {ri si ki : Nat} {S : List Nat} {lf jf cnt : Nat} (hc20 : cnt ≤ 20) {d : Nat} (hd : 13 ≤ d) : ∀ (q k : Nat) (D : List Nat) (σ : ZS) (k0 : zg σ 0 = some (.inr (.inr (6, [.ref 1, .ref 6, .ref 11, .ref 16, .ref 22, .ref 28, .ref 31, .int tx, .int ik])))) (hT : Pa σ 11 (nI rr) (nI dn) (nI ru) n K N W D) (hM : MaW σ ru ri si ki S lf jf) (hJ : SeJ σ) (hF : Fr (fun i => i = 18 ∨ i = ki ∨ (11 ≤ i ∧ i ≤ 15) ∨ (22 ≤ i ∧ i ≤ 27)) σ0 σ), k + q = cnt → X M_X7_run d 0 0 (fun r9 σ' => r9 = some (.int (nI (allS (runS rr n K N W S lf jf q D).2 n n))) ∧ SeJ σ' ∧ PaJ σ' 11 ∧ MaW σ' ru ri si ki S lf jf ∧ Fr (fun i => i = 18 ∨ i = ki ∨ (11 ≤ i ∧ i ≤ 15) ∨ (22 ≤ i ∧ i ≤ 27)) σ0 σ') 0 0 35 [some (.ref 0), some (.int (nI cnt)), some (.int (nI 1)), some (.int (nI k))] [] σ := by
  intro q
  induction q with
  | zero =>
    intro k D σ k0 hT hM hJ hF hk
    obtain ⟨bw8, am8, sz8, rd8, jd8, fd8, en8, e0⟩ := hJ.ok
    have hn7 := hT.2.2.2.2.2.1
    have hloc := hM.2.2.2.2.2.1
    refine x_iload_n dX7_run_35 rfl ?_
    refine x_iload_n dX7_run_36 rfl ?_
    refine x_icmpN_ge (tgt := 79) dX7_run_37 (by decide) (by omega) (by omega) (fun hv1 => ?_) (fun hv1 => ?_)
    · refine x_iload_n dX7_run_79 rfl ?_
      refine x_ifN_ne (tgt := 85) dX7_run_80 (by decide) (by omega) (fun hv2 => ?_) (fun hv2 => ?_)
      · refine x_iload_n dX7_run_85 rfl ?_
        refine x_iconst (v := nI 1) dX7_run_86 (by decide) ?_
        refine x_icmpN_ne (tgt := 100) dX7_run_87 (by decide) (by omega) (by omega) (fun hv3 => ?_) (fun hv3 => ?_)
        · exact absurd hv3 (by decide)
        · refine x_aload_n dX7_run_90 rfl ?_
          refine x_get (v := .ref 11) f_X7_19 k0 rfl dX7_run_91 ?_
          refine x_callV m_X2_owed l_X7_176 (c_owed hT) rfl hT.1 (by omega) rfl rfl (Nat.le_of_ble_eq_true rfl) ⟨Nat.le_refl _, Nat.le_refl _⟩ dX7_run_94 (fun r4 s4 q4 => ?_)
          obtain ⟨rfl, eq4⟩ := q4
          obtain rfl := eq4.symm
          refine x_stk (st' := [.int (nI ((allS D n n)))]) rfl ?_
          refine x_goto (tgt := 107) dX7_run_97 (by decide) ?_
          exact x_iret ⟨Nat.le_refl _, Nat.le_refl _⟩ rfl dX7_run_107 ⟨rfl, hJ, ⟨_, _, _, _, _, _, _, _, hT⟩, hM, hF⟩
      · exact absurd hv2 (by decide)
    · exact absurd hv1 (by omega)
  | succ q ih =>
    intro k D σ k0 hT hM hJ hF hk
    obtain ⟨bw8, am8, sz8, rd8, jd8, fd8, en8, e0⟩ := hJ.ok
    have hn7 := hT.2.2.2.2.2.1
    have hloc := hM.2.2.2.2.2.1
    refine x_iload_n dX7_run_35 rfl ?_
    refine x_iload_n dX7_run_36 rfl ?_
    refine x_icmpN_ge (tgt := 79) dX7_run_37 (by decide) (by omega) (by omega) (fun hv1 => ?_) (fun hv1 => ?_)
    · exact absurd hv1 (by omega)
    · refine x_aload_n dX7_run_40 rfl ?_
      refine x_aload_n dX7_run_41 rfl ?_
      refine x_get (v := .ref 11) f_X7_19 k0 rfl dX7_run_42 ?_
      refine x_callV m_X7_isGladdest l_X7_200 (c_gladdest k0 (Or.inr rfl) hT hr1 hM hJ) rfl k0 (by omega) rfl rfl (Nat.le_of_ble_eq_true rfl) ⟨Nat.le_refl _, Nat.le_refl _⟩ dX7_run_45 (fun r2 s2 q2 => ?_)
      obtain ⟨rfl, Q2, P2, M2, F2⟩ := q2
      obtain ⟨bw2, jd2, fd2, en2, e0_2⟩ := Q2.ok
      refine x_stk (st' := [.int (bI ((bstB (totB (vW false S lf jf K N W D n) (decide (rr = 1)) n) (lwf (decide (rr = 1)) (2 ^ n - 1) (wlS K N D n (2 ^ n - 1) (-1)))).isSome))]) rfl ?_
      refine x_ifB_eq (tgt := 79) dX7_run_48 (by decide) (fun hv3 => ?_) (fun hv3 => ?_)
      · refine x_iload_n dX7_run_79 rfl ?_
        refine x_ifN_ne (tgt := 85) dX7_run_80 (by decide) (by omega) (fun hv4 => ?_) (fun hv4 => ?_)
        · refine x_iload_n dX7_run_85 rfl ?_
          refine x_iconst (v := nI 1) dX7_run_86 (by decide) ?_
          refine x_icmpN_ne (tgt := 100) dX7_run_87 (by decide) (by omega) (by omega) (fun hv5 => ?_) (fun hv5 => ?_)
          · exact absurd hv5 (by decide)
          · refine x_aload_n dX7_run_90 rfl ?_
            refine x_get (v := .ref 11) f_X7_19 (F2.at (by omega) k0) rfl dX7_run_91 ?_
            refine x_callV m_X2_owed l_X7_176 (c_owed P2) rfl P2.1 (by omega) rfl rfl (Nat.le_of_ble_eq_true rfl) ⟨Nat.le_refl _, Nat.le_refl _⟩ dX7_run_94 (fun r6 s6 q6 => ?_)
            obtain ⟨rfl, eq6⟩ := q6
            obtain rfl := eq6.symm
            refine x_stk (st' := [.int (nI ((allS D n n)))]) rfl ?_
            refine x_goto (tgt := 107) dX7_run_97 (by decide) ?_
            exact x_iret ⟨Nat.le_refl _, Nat.le_refl _⟩ rfl dX7_run_107 ⟨by (rw [runS_n (isn hv3)]) <;> rfl, Q2.j, ⟨_, _, _, _, _, _, _, _, P2⟩, M2, hF.tr (Fr.rf.tr (F2.mono (fun i hi => by omega)))⟩
        · exact absurd hv4 (by decide)
      · obtain ⟨y, hy⟩ := Option.isSome_iff_exists.mp hv3
        refine x_aload_n dX7_run_51 rfl ?_
        refine x_get (v := .ref 22) f_X7_32 (F2.at (by omega) k0) rfl dX7_run_52 ?_
        refine x_callV m_X5_layBest l_X7_242 (c_layF Q2 hn7 (wlS_ok hn7) hy) rfl e0_2 (by omega) rfl rfl (Nat.le_of_ble_eq_true rfl) ⟨Nat.le_refl _, Nat.le_refl _⟩ dX7_run_55 (fun r7 s7 q7 => ?_)
        obtain ⟨rfl, T7, F7⟩ := q7
        obtain ⟨bw7, jd7, fd7, en7, e0_7⟩ := T7.ok
        refine x_stk (st' := []) rfl ?_
        refine x_aload_n dX7_run_58 rfl ?_
        refine x_get (v := .ref 22) f_X7_32 (F7.at (by omega) (F2.at (by omega) k0)) rfl dX7_run_59 ?_
        refine x_aload_n dX7_run_62 rfl ?_
        refine x_get (v := .ref 16) f_X7_25 (F7.at (by omega) (F2.at (by omega) k0)) rfl dX7_run_63 ?_
        refine x_aload_n dX7_run_66 rfl ?_
        refine x_get (v := .ref 11) f_X7_19 (F7.at (by omega) (F2.at (by omega) k0)) rfl dX7_run_67 ?_
        refine x_callV m_X5_hold l_X7_172 (c_holdT T7 (Or.inr rfl) hn7 (wlS_ok hn7) (P2.fr F7 (by omega)) (M2.fr F7 (by omega))) rfl e0_7 (by omega) rfl rfl (Nat.le_of_ble_eq_true rfl) ⟨Nat.le_refl _, Nat.le_refl _⟩ dX7_run_70 (fun r8 s8 q8 => ?_)
        obtain ⟨rfl, P8, M8, F8⟩ := q8
        refine x_stk (st' := []) rfl ?_
        refine x_iincN dX7_run_73 rfl (by decide) rfl ?_
        refine x_lv (lv' := [some (.ref 0), some (.int (nI cnt)), some (.int (nI 1)), some (.int (nI (k + 1)))]) rfl ?_
        refine x_goto (tgt := 35) dX7_run_76 (by decide) ?_
        have e9 : nI (allS (runS rr n K N W S lf jf (q + 1) D).2 n n) = nI (allS (runS rr n K N W S lf jf q (hdD S lf jf K N W y n (prS (decide (rr = 1)) n) D)).2 n n) := by rw [runS_s hy]
        rw [e9]
        exact ih (k + 1) (hdD S lf jf K N W y n (prS (decide (rr = 1)) n) D) s8 (F8.at (by omega) (F7.at (by omega) (F2.at (by omega) k0))) P8 M8 (T7.j.fr F8 (by omega)) (hF.tr (((Fr.rf.tr (F2.mono (fun i hi => by omega))).tr (F7.mono (fun i hi => by omega))).tr (F8.mono (fun i hi => by omega)))) (by omega)
set_option maxHeartbeats 4000000 in
theorem l_run2 {σ0 : ZS} {tx ik : Int32} {rr dn ru n : Nat} {K N : List Nat} {W : List Int32} (hr1 : rr ≤ 1) {ri si ki : Nat} {S : List Nat} {lf jf cnt : Nat} (hc20 : cnt ≤ 20) {d : Nat} (hd : 13 ≤ d) : ∀ (q k : Nat) (D : List Nat) (σ : ZS) (k0 : zg σ 0 = some (.inr (.inr (6, [.ref 1, .ref 6, .ref 11, .ref 16, .ref 22, .ref 28, .ref 31, .int tx, .int ik])))) (hT : Pa σ 11 (nI rr) (nI dn) (nI ru) n K N W D) (hM : MaW σ ru ri si ki S lf jf) (hJ : SeJ σ) (hF : Fr (fun i => i = 18 ∨ i = ki ∨ (11 ≤ i ∧ i ≤ 15) ∨ (22 ≤ i ∧ i ≤ 27)) σ0 σ), k + q = cnt → X M_X7_run d 0 0 (fun r9 σ' => r9 = some (.int (nI (ruinS (runS rr n K N W S lf jf q D).2 n n))) ∧ SeJ σ' ∧ PaJ σ' 11 ∧ MaW σ' ru ri si ki S lf jf ∧ Fr (fun i => i = 18 ∨ i = ki ∨ (11 ≤ i ∧ i ≤ 15) ∨ (22 ≤ i ∧ i ≤ 27)) σ0 σ') 0 0 35 [some (.ref 0), some (.int (nI cnt)), some (.int (nI 2)), some (.int (nI k))] [] σ := by
  intro q
  induction q with
  | zero =>
    intro k D σ k0 hT hM hJ hF hk
    obtain ⟨bw8, am8, sz8, rd8, jd8, fd8, en8, e0⟩ := hJ.ok
    have hn7 := hT.2.2.2.2.2.1
    have hloc := hM.2.2.2.2.2.1
    refine x_iload_n dX7_run_35 rfl ?_
    refine x_iload_n dX7_run_36 rfl ?_
    refine x_icmpN_ge (tgt := 79) dX7_run_37 (by decide) (by omega) (by omega) (fun hv1 => ?_) (fun hv1 => ?_)
    · refine x_iload_n dX7_run_79 rfl ?_
      refine x_ifN_ne (tgt := 85) dX7_run_80 (by decide) (by omega) (fun hv2 => ?_) (fun hv2 => ?_)
      · refine x_iload_n dX7_run_85 rfl ?_
        refine x_iconst (v := nI 1) dX7_run_86 (by decide) ?_
        refine x_icmpN_ne (tgt := 100) dX7_run_87 (by decide) (by omega) (by omega) (fun hv3 => ?_) (fun hv3 => ?_)
        · refine x_aload_n dX7_run_100 rfl ?_
          refine x_get (v := .ref 11) f_X7_19 k0 rfl dX7_run_101 ?_
          refine x_callV m_X2_ruined l_X7_245 (c_ruined hT) rfl hT.1 (by omega) rfl rfl (Nat.le_of_ble_eq_true rfl) ⟨Nat.le_refl _, Nat.le_refl _⟩ dX7_run_104 (fun r4 s4 q4 => ?_)
          obtain ⟨rfl, eq4⟩ := q4
          obtain rfl := eq4.symm
          refine x_stk (st' := [.int (nI ((ruinS D n n)))]) rfl ?_
          exact x_iret ⟨Nat.le_refl _, Nat.le_refl _⟩ rfl dX7_run_107 ⟨rfl, hJ, ⟨_, _, _, _, _, _, _, _, hT⟩, hM, hF⟩
        · exact absurd hv3 (by decide)
      · exact absurd hv2 (by decide)
    · exact absurd hv1 (by omega)
  | succ q ih =>
    intro k D σ k0 hT hM hJ hF hk
    obtain ⟨bw8, am8, sz8, rd8, jd8, fd8, en8, e0⟩ := hJ.ok
    have hn7 := hT.2.2.2.2.2.1
    have hloc := hM.2.2.2.2.2.1
    refine x_iload_n dX7_run_35 rfl ?_
    refine x_iload_n dX7_run_36 rfl ?_
    refine x_icmpN_ge (tgt := 79) dX7_run_37 (by decide) (by omega) (by omega) (fun hv1 => ?_) (fun hv1 => ?_)
    · exact absurd hv1 (by omega)
    · refine x_aload_n dX7_run_40 rfl ?_
      refine x_aload_n dX7_run_41 rfl ?_
      refine x_get (v := .ref 11) f_X7_19 k0 rfl dX7_run_42 ?_
      refine x_callV m_X7_isGladdest l_X7_200 (c_gladdest k0 (Or.inr rfl) hT hr1 hM hJ) rfl k0 (by omega) rfl rfl (Nat.le_of_ble_eq_true rfl) ⟨Nat.le_refl _, Nat.le_refl _⟩ dX7_run_45 (fun r2 s2 q2 => ?_)
      obtain ⟨rfl, Q2, P2, M2, F2⟩ := q2
      obtain ⟨bw2, jd2, fd2, en2, e0_2⟩ := Q2.ok
      refine x_stk (st' := [.int (bI ((bstB (totB (vW false S lf jf K N W D n) (decide (rr = 1)) n) (lwf (decide (rr = 1)) (2 ^ n - 1) (wlS K N D n (2 ^ n - 1) (-1)))).isSome))]) rfl ?_
      refine x_ifB_eq (tgt := 79) dX7_run_48 (by decide) (fun hv3 => ?_) (fun hv3 => ?_)
      · refine x_iload_n dX7_run_79 rfl ?_
        refine x_ifN_ne (tgt := 85) dX7_run_80 (by decide) (by omega) (fun hv4 => ?_) (fun hv4 => ?_)
        · refine x_iload_n dX7_run_85 rfl ?_
          refine x_iconst (v := nI 1) dX7_run_86 (by decide) ?_
          refine x_icmpN_ne (tgt := 100) dX7_run_87 (by decide) (by omega) (by omega) (fun hv5 => ?_) (fun hv5 => ?_)
          · refine x_aload_n dX7_run_100 rfl ?_
            refine x_get (v := .ref 11) f_X7_19 (F2.at (by omega) k0) rfl dX7_run_101 ?_
            refine x_callV m_X2_ruined l_X7_245 (c_ruined P2) rfl P2.1 (by omega) rfl rfl (Nat.le_of_ble_eq_true rfl) ⟨Nat.le_refl _, Nat.le_refl _⟩ dX7_run_104 (fun r6 s6 q6 => ?_)
            obtain ⟨rfl, eq6⟩ := q6
            obtain rfl := eq6.symm
            refine x_stk (st' := [.int (nI ((ruinS D n n)))]) rfl ?_
            exact x_iret ⟨Nat.le_refl _, Nat.le_refl _⟩ rfl dX7_run_107 ⟨by (rw [runS_n (isn hv3)]) <;> rfl, Q2.j, ⟨_, _, _, _, _, _, _, _, P2⟩, M2, hF.tr (Fr.rf.tr (F2.mono (fun i hi => by omega)))⟩
          · exact absurd hv5 (by decide)
        · exact absurd hv4 (by decide)
      · obtain ⟨y, hy⟩ := Option.isSome_iff_exists.mp hv3
        refine x_aload_n dX7_run_51 rfl ?_
        refine x_get (v := .ref 22) f_X7_32 (F2.at (by omega) k0) rfl dX7_run_52 ?_
        refine x_callV m_X5_layBest l_X7_242 (c_layF Q2 hn7 (wlS_ok hn7) hy) rfl e0_2 (by omega) rfl rfl (Nat.le_of_ble_eq_true rfl) ⟨Nat.le_refl _, Nat.le_refl _⟩ dX7_run_55 (fun r7 s7 q7 => ?_)
        obtain ⟨rfl, T7, F7⟩ := q7
        obtain ⟨bw7, jd7, fd7, en7, e0_7⟩ := T7.ok
        refine x_stk (st' := []) rfl ?_
        refine x_aload_n dX7_run_58 rfl ?_
        refine x_get (v := .ref 22) f_X7_32 (F7.at (by omega) (F2.at (by omega) k0)) rfl dX7_run_59 ?_
        refine x_aload_n dX7_run_62 rfl ?_
        refine x_get (v := .ref 16) f_X7_25 (F7.at (by omega) (F2.at (by omega) k0)) rfl dX7_run_63 ?_
        refine x_aload_n dX7_run_66 rfl ?_
        refine x_get (v := .ref 11) f_X7_19 (F7.at (by omega) (F2.at (by omega) k0)) rfl dX7_run_67 ?_
        refine x_callV m_X5_hold l_X7_172 (c_holdT T7 (Or.inr rfl) hn7 (wlS_ok hn7) (P2.fr F7 (by omega)) (M2.fr F7 (by omega))) rfl e0_7 (by omega) rfl rfl (Nat.le_of_ble_eq_true rfl) ⟨Nat.le_refl _, Nat.le_refl _⟩ dX7_run_70 (fun r8 s8 q8 => ?_)
        obtain ⟨rfl, P8, M8, F8⟩ := q8
        refine x_stk (st' := []) rfl ?_
        refine x_iincN dX7_run_73 rfl (by decide) rfl ?_
        refine x_lv (lv' := [some (.ref 0), some (.int (nI cnt)), some (.int (nI 2)), some (.int (nI (k + 1)))]) rfl ?_
        refine x_goto (tgt := 35) dX7_run_76 (by decide) ?_
        have e9 : nI (ruinS (runS rr n K N W S lf jf (q + 1) D).2 n n) = nI (ruinS (runS rr n K N W S lf jf q (hdD S lf jf K N W y n (prS (decide (rr = 1)) n) D)).2 n n) := by rw [runS_s hy]
        rw [e9]
        exact ih (k + 1) (hdD S lf jf K N W y n (prS (decide (rr = 1)) n) D) s8 (F8.at (by omega) (F7.at (by omega) (F2.at (by omega) k0))) P8 M8 (T7.j.fr F8 (by omega)) (hF.tr (((Fr.rf.tr (F2.mono (fun i hi => by omega))).tr (F7.mono (fun i hi => by omega))).tr (F8.mono (fun i hi => by omega)))) (by omega)
set_option maxHeartbeats 4000000 in
theorem c_run0 {σ : ZS} {tx ik : Int32} (k0 : zg σ 0 = some (.inr (.inr (6, [.ref 1, .ref 6, .ref 11, .ref 16, .ref 22, .ref 28, .ref 31, .int tx, .int ik])))) {rr dn ru n : Nat} {K N : List Nat} {W : List Int32} {D : List Nat} (h : Pa σ 1 (nI rr) (nI dn) (nI ru) n K N W D) (hr1 : rr ≤ 1) {ri si ki : Nat} {S : List Nat} {lf jf : Nat} (hM : MaW σ ru ri si ki S lf jf) (hJ : SeJ σ) (h11 : PaJ σ 11) {cnt : Nat} (hc20 : cnt ≤ 20) : Cn 14 M_X7_run 0 0 [.ref 0, .int (nI cnt), .int (nI 0)] σ (fun r9 σ' => r9 = some (.int (nI (0 + (runS rr n K N W S lf jf cnt D).1))) ∧ SeJ σ' ∧ PaJ σ' 11 ∧ MaW σ' ru ri si ki S lf jf ∧ Fr (fun i => i = 18 ∨ i = ki ∨ (11 ≤ i ∧ i ≤ 15) ∨ (22 ≤ i ∧ i ≤ 27)) σ σ') := by
  obtain ⟨ro9, di9, ru9, n9, K9, N9, W9, D9, hT9⟩ := id h11
  have t0 := hT9.1
  have hloc := hM.2.2.2.2.2.1
  refine Cn.intro (lv0 := [some (.ref 0), some (.int (nI cnt)), some (.int (nI 0)), none]) rfl (Nat.le_of_ble_eq_true rfl) rfl (fun d hd => ?_)
  refine x_iload_n dX7_run_0 rfl ?_
  refine x_iconst (v := nI 0) dX7_run_1 (by decide) ?_
  refine x_bipush (v := nI 20) dX7_run_2 (by decide) ?_
  refine x_callS m_X7_isWithin l_X7_72 (c_within (p := ((cnt : Nat) : Int)) (q := ((0 : Nat) : Int)) (r := ((20 : Nat) : Int)) (nI_toInt (by omega)) (nI_toInt (by omega)) (nI_toInt (by omega))) (by omega) rfl rfl (Nat.le_of_ble_eq_true rfl) ⟨Nat.le_refl _, Nat.le_refl _⟩ dX7_run_4 (fun r1 s1 q1 => ?_)
  obtain ⟨rfl, eq1⟩ := q1
  obtain rfl := eq1.symm
  refine x_stk (st' := [.int (bI (decide (((0 : Nat) : Int) ≤ ((cnt : Nat) : Int) ∧ ((cnt : Nat) : Int) ≤ ((20 : Nat) : Int))))]) rfl ?_
  refine x_ifP_eq (P := ((0 : Nat) : Int) ≤ ((cnt : Nat) : Int) ∧ ((cnt : Nat) : Int) ≤ ((20 : Nat) : Int)) inferInstance (tgt := 19) dX7_run_7 (by decide) (fun hv2 => ?_) (fun hv2 => ?_)
  · exact absurd hv2 (by omega)
  · refine x_iload_n dX7_run_10 rfl ?_
    refine x_iconst (v := nI 0) dX7_run_11 (by decide) ?_
    refine x_iconst (v := nI 2) dX7_run_12 (by decide) ?_
    refine x_callS m_X7_isWithin l_X7_72 (c_within (p := ((0 : Nat) : Int)) (q := ((0 : Nat) : Int)) (r := ((2 : Nat) : Int)) (nI_toInt (by omega)) (nI_toInt (by omega)) (nI_toInt (by omega))) (by omega) rfl rfl (Nat.le_of_ble_eq_true rfl) ⟨Nat.le_refl _, Nat.le_refl _⟩ dX7_run_13 (fun r3 s3 q3 => ?_)
    obtain ⟨rfl, eq3⟩ := q3
    obtain rfl := eq3.symm
    refine x_stk (st' := [.int (bI (decide (((0 : Nat) : Int) ≤ ((0 : Nat) : Int) ∧ ((0 : Nat) : Int) ≤ ((2 : Nat) : Int))))]) rfl ?_
    refine x_ifP_ne (P := ((0 : Nat) : Int) ≤ ((0 : Nat) : Int) ∧ ((0 : Nat) : Int) ≤ ((2 : Nat) : Int)) inferInstance (tgt := 22) dX7_run_16 (by decide) (fun hv4 => ?_) (fun hv4 => ?_)
    · refine x_aload_n dX7_run_22 rfl ?_
      refine x_get (v := .ref 11) f_X7_19 k0 rfl dX7_run_23 ?_
      refine x_aload_n dX7_run_26 rfl ?_
      refine x_get (v := .ref 1) f_X7_10 k0 rfl dX7_run_27 ?_
      refine x_callV m_X2_become l_X7_168 (c_become hT9 h (by omega)) rfl t0 (by omega) rfl rfl (Nat.le_of_ble_eq_true rfl) ⟨Nat.le_refl _, Nat.le_refl _⟩ dX7_run_30 (fun r5 s5 q5 => ?_)
      obtain ⟨rfl, P5, F5⟩ := q5
      refine x_stk (st' := []) rfl ?_
      refine x_iconst (v := nI 0) dX7_run_33 (by decide) ?_
      refine x_istore_n dX7_run_34 (by decide) rfl ?_
      refine x_lv (lv' := [some (.ref 0), some (.int (nI cnt)), some (.int (nI 0)), some (.int (nI 0))]) rfl ?_
      exact l_run0 (σ0 := σ) hr1 hc20 (by omega) cnt 0 D s5 (F5.at (by omega) k0) P5 (hM.fr F5 (by omega)) (hJ.fr F5 (by omega)) (F5.mono (fun i hi => by omega)) (by omega)
    · exact absurd hv4 (by omega)
set_option maxHeartbeats 4000000 in
theorem c_run1 {σ : ZS} {tx ik : Int32} (k0 : zg σ 0 = some (.inr (.inr (6, [.ref 1, .ref 6, .ref 11, .ref 16, .ref 22, .ref 28, .ref 31, .int tx, .int ik])))) {rr dn ru n : Nat} {K N : List Nat} {W : List Int32} {D : List Nat} (h : Pa σ 1 (nI rr) (nI dn) (nI ru) n K N W D) (hr1 : rr ≤ 1) {ri si ki : Nat} {S : List Nat} {lf jf : Nat} (hM : MaW σ ru ri si ki S lf jf) (hJ : SeJ σ) (h11 : PaJ σ 11) {cnt : Nat} (hc20 : cnt ≤ 20) : Cn 14 M_X7_run 0 0 [.ref 0, .int (nI cnt), .int (nI 1)] σ (fun r9 σ' => r9 = some (.int (nI (allS (runS rr n K N W S lf jf cnt D).2 n n))) ∧ SeJ σ' ∧ PaJ σ' 11 ∧ MaW σ' ru ri si ki S lf jf ∧ Fr (fun i => i = 18 ∨ i = ki ∨ (11 ≤ i ∧ i ≤ 15) ∨ (22 ≤ i ∧ i ≤ 27)) σ σ') := by
  obtain ⟨ro9, di9, ru9, n9, K9, N9, W9, D9, hT9⟩ := id h11
  have t0 := hT9.1
  have hloc := hM.2.2.2.2.2.1
  refine Cn.intro (lv0 := [some (.ref 0), some (.int (nI cnt)), some (.int (nI 1)), none]) rfl (Nat.le_of_ble_eq_true rfl) rfl (fun d hd => ?_)
  refine x_iload_n dX7_run_0 rfl ?_
  refine x_iconst (v := nI 0) dX7_run_1 (by decide) ?_
  refine x_bipush (v := nI 20) dX7_run_2 (by decide) ?_
  refine x_callS m_X7_isWithin l_X7_72 (c_within (p := ((cnt : Nat) : Int)) (q := ((0 : Nat) : Int)) (r := ((20 : Nat) : Int)) (nI_toInt (by omega)) (nI_toInt (by omega)) (nI_toInt (by omega))) (by omega) rfl rfl (Nat.le_of_ble_eq_true rfl) ⟨Nat.le_refl _, Nat.le_refl _⟩ dX7_run_4 (fun r1 s1 q1 => ?_)
  obtain ⟨rfl, eq1⟩ := q1
  obtain rfl := eq1.symm
  refine x_stk (st' := [.int (bI (decide (((0 : Nat) : Int) ≤ ((cnt : Nat) : Int) ∧ ((cnt : Nat) : Int) ≤ ((20 : Nat) : Int))))]) rfl ?_
  refine x_ifP_eq (P := ((0 : Nat) : Int) ≤ ((cnt : Nat) : Int) ∧ ((cnt : Nat) : Int) ≤ ((20 : Nat) : Int)) inferInstance (tgt := 19) dX7_run_7 (by decide) (fun hv2 => ?_) (fun hv2 => ?_)
  · exact absurd hv2 (by omega)
  · refine x_iload_n dX7_run_10 rfl ?_
    refine x_iconst (v := nI 0) dX7_run_11 (by decide) ?_
    refine x_iconst (v := nI 2) dX7_run_12 (by decide) ?_
    refine x_callS m_X7_isWithin l_X7_72 (c_within (p := ((1 : Nat) : Int)) (q := ((0 : Nat) : Int)) (r := ((2 : Nat) : Int)) (nI_toInt (by omega)) (nI_toInt (by omega)) (nI_toInt (by omega))) (by omega) rfl rfl (Nat.le_of_ble_eq_true rfl) ⟨Nat.le_refl _, Nat.le_refl _⟩ dX7_run_13 (fun r3 s3 q3 => ?_)
    obtain ⟨rfl, eq3⟩ := q3
    obtain rfl := eq3.symm
    refine x_stk (st' := [.int (bI (decide (((0 : Nat) : Int) ≤ ((1 : Nat) : Int) ∧ ((1 : Nat) : Int) ≤ ((2 : Nat) : Int))))]) rfl ?_
    refine x_ifP_ne (P := ((0 : Nat) : Int) ≤ ((1 : Nat) : Int) ∧ ((1 : Nat) : Int) ≤ ((2 : Nat) : Int)) inferInstance (tgt := 22) dX7_run_16 (by decide) (fun hv4 => ?_) (fun hv4 => ?_)
    · refine x_aload_n dX7_run_22 rfl ?_
      refine x_get (v := .ref 11) f_X7_19 k0 rfl dX7_run_23 ?_
      refine x_aload_n dX7_run_26 rfl ?_
      refine x_get (v := .ref 1) f_X7_10 k0 rfl dX7_run_27 ?_
      refine x_callV m_X2_become l_X7_168 (c_become hT9 h (by omega)) rfl t0 (by omega) rfl rfl (Nat.le_of_ble_eq_true rfl) ⟨Nat.le_refl _, Nat.le_refl _⟩ dX7_run_30 (fun r5 s5 q5 => ?_)
      obtain ⟨rfl, P5, F5⟩ := q5
      refine x_stk (st' := []) rfl ?_
      refine x_iconst (v := nI 0) dX7_run_33 (by decide) ?_
      refine x_istore_n dX7_run_34 (by decide) rfl ?_
      refine x_lv (lv' := [some (.ref 0), some (.int (nI cnt)), some (.int (nI 1)), some (.int (nI 0))]) rfl ?_
      exact l_run1 (σ0 := σ) hr1 hc20 (by omega) cnt 0 D s5 (F5.at (by omega) k0) P5 (hM.fr F5 (by omega)) (hJ.fr F5 (by omega)) (F5.mono (fun i hi => by omega)) (by omega)
    · exact absurd hv4 (by omega)
set_option maxHeartbeats 4000000 in
theorem c_run2 {σ : ZS} {tx ik : Int32} (k0 : zg σ 0 = some (.inr (.inr (6, [.ref 1, .ref 6, .ref 11, .ref 16, .ref 22, .ref 28, .ref 31, .int tx, .int ik])))) {rr dn ru n : Nat} {K N : List Nat} {W : List Int32} {D : List Nat} (h : Pa σ 1 (nI rr) (nI dn) (nI ru) n K N W D) (hr1 : rr ≤ 1) {ri si ki : Nat} {S : List Nat} {lf jf : Nat} (hM : MaW σ ru ri si ki S lf jf) (hJ : SeJ σ) (h11 : PaJ σ 11) {cnt : Nat} (hc20 : cnt ≤ 20) : Cn 14 M_X7_run 0 0 [.ref 0, .int (nI cnt), .int (nI 2)] σ (fun r9 σ' => r9 = some (.int (nI (ruinS (runS rr n K N W S lf jf cnt D).2 n n))) ∧ SeJ σ' ∧ PaJ σ' 11 ∧ MaW σ' ru ri si ki S lf jf ∧ Fr (fun i => i = 18 ∨ i = ki ∨ (11 ≤ i ∧ i ≤ 15) ∨ (22 ≤ i ∧ i ≤ 27)) σ σ') := by
  obtain ⟨ro9, di9, ru9, n9, K9, N9, W9, D9, hT9⟩ := id h11
  have t0 := hT9.1
  have hloc := hM.2.2.2.2.2.1
  refine Cn.intro (lv0 := [some (.ref 0), some (.int (nI cnt)), some (.int (nI 2)), none]) rfl (Nat.le_of_ble_eq_true rfl) rfl (fun d hd => ?_)
  refine x_iload_n dX7_run_0 rfl ?_
  refine x_iconst (v := nI 0) dX7_run_1 (by decide) ?_
  refine x_bipush (v := nI 20) dX7_run_2 (by decide) ?_
  refine x_callS m_X7_isWithin l_X7_72 (c_within (p := ((cnt : Nat) : Int)) (q := ((0 : Nat) : Int)) (r := ((20 : Nat) : Int)) (nI_toInt (by omega)) (nI_toInt (by omega)) (nI_toInt (by omega))) (by omega) rfl rfl (Nat.le_of_ble_eq_true rfl) ⟨Nat.le_refl _, Nat.le_refl _⟩ dX7_run_4 (fun r1 s1 q1 => ?_)
  obtain ⟨rfl, eq1⟩ := q1
  obtain rfl := eq1.symm
  refine x_stk (st' := [.int (bI (decide (((0 : Nat) : Int) ≤ ((cnt : Nat) : Int) ∧ ((cnt : Nat) : Int) ≤ ((20 : Nat) : Int))))]) rfl ?_
  refine x_ifP_eq (P := ((0 : Nat) : Int) ≤ ((cnt : Nat) : Int) ∧ ((cnt : Nat) : Int) ≤ ((20 : Nat) : Int)) inferInstance (tgt := 19) dX7_run_7 (by decide) (fun hv2 => ?_) (fun hv2 => ?_)
  · exact absurd hv2 (by omega)
  · refine x_iload_n dX7_run_10 rfl ?_
    refine x_iconst (v := nI 0) dX7_run_11 (by decide) ?_
    refine x_iconst (v := nI 2) dX7_run_12 (by decide) ?_
    refine x_callS m_X7_isWithin l_X7_72 (c_within (p := ((2 : Nat) : Int)) (q := ((0 : Nat) : Int)) (r := ((2 : Nat) : Int)) (nI_toInt (by omega)) (nI_toInt (by omega)) (nI_toInt (by omega))) (by omega) rfl rfl (Nat.le_of_ble_eq_true rfl) ⟨Nat.le_refl _, Nat.le_refl _⟩ dX7_run_13 (fun r3 s3 q3 => ?_)
    obtain ⟨rfl, eq3⟩ := q3
    obtain rfl := eq3.symm
    refine x_stk (st' := [.int (bI (decide (((0 : Nat) : Int) ≤ ((2 : Nat) : Int) ∧ ((2 : Nat) : Int) ≤ ((2 : Nat) : Int))))]) rfl ?_
    refine x_ifP_ne (P := ((0 : Nat) : Int) ≤ ((2 : Nat) : Int) ∧ ((2 : Nat) : Int) ≤ ((2 : Nat) : Int)) inferInstance (tgt := 22) dX7_run_16 (by decide) (fun hv4 => ?_) (fun hv4 => ?_)
    · refine x_aload_n dX7_run_22 rfl ?_
      refine x_get (v := .ref 11) f_X7_19 k0 rfl dX7_run_23 ?_
      refine x_aload_n dX7_run_26 rfl ?_
      refine x_get (v := .ref 1) f_X7_10 k0 rfl dX7_run_27 ?_
      refine x_callV m_X2_become l_X7_168 (c_become hT9 h (by omega)) rfl t0 (by omega) rfl rfl (Nat.le_of_ble_eq_true rfl) ⟨Nat.le_refl _, Nat.le_refl _⟩ dX7_run_30 (fun r5 s5 q5 => ?_)
      obtain ⟨rfl, P5, F5⟩ := q5
      refine x_stk (st' := []) rfl ?_
      refine x_iconst (v := nI 0) dX7_run_33 (by decide) ?_
      refine x_istore_n dX7_run_34 (by decide) rfl ?_
      refine x_lv (lv' := [some (.ref 0), some (.int (nI cnt)), some (.int (nI 2)), some (.int (nI 0))]) rfl ?_
      exact l_run2 (σ0 := σ) hr1 hc20 (by omega) cnt 0 D s5 (F5.at (by omega) k0) P5 (hM.fr F5 (by omega)) (hJ.fr F5 (by omega)) (F5.mono (fun i hi => by omega)) (by omega)
    · exact absurd hv4 (by omega)
set_option maxHeartbeats 4000000 in
theorem c_run_b {σ : ZS} {tx ik : Int32} (k0 : zg σ 0 = some (.inr (.inr (6, [.ref 1, .ref 6, .ref 11, .ref 16, .ref 22, .ref 28, .ref 31, .int tx, .int ik])))) {x w : Int32} (hb : ¬ (0 ≤ x.toInt ∧ x.toInt ≤ 20) ∨ ¬ (0 ≤ w.toInt ∧ w.toInt ≤ 2)) : Cn 14 M_X7_run 0 0 [.ref 0, .int x, .int w] σ (fun r9 σ' => r9 = some (.int (-2)) ∧ σ' = σ) := by
  refine Cn.intro (lv0 := [some (.ref 0), some (.int x), some (.int w), none]) rfl (Nat.le_of_ble_eq_true rfl) rfl (fun d hd => ?_)
  refine x_iload_n dX7_run_0 rfl ?_
  refine x_iconst (v := nI 0) dX7_run_1 (by decide) ?_
  refine x_bipush (v := nI 20) dX7_run_2 (by decide) ?_
  refine x_callS m_X7_isWithin l_X7_72 (c_within (p := (x).toInt) (q := ((0 : Nat) : Int)) (r := ((20 : Nat) : Int)) rfl (nI_toInt (by omega)) (nI_toInt (by omega))) (by omega) rfl rfl (Nat.le_of_ble_eq_true rfl) ⟨Nat.le_refl _, Nat.le_refl _⟩ dX7_run_4 (fun r1 s1 q1 => ?_)
  obtain ⟨rfl, eq1⟩ := q1
  obtain rfl := eq1.symm
  refine x_stk (st' := [.int (bI (decide (((0 : Nat) : Int) ≤ (x).toInt ∧ (x).toInt ≤ ((20 : Nat) : Int))))]) rfl ?_
  refine x_ifP_eq (P := ((0 : Nat) : Int) ≤ (x).toInt ∧ (x).toInt ≤ ((20 : Nat) : Int)) inferInstance (tgt := 19) dX7_run_7 (by decide) (fun hv2 => ?_) (fun hv2 => ?_)
  · refine x_bipush (v := (-2)) dX7_run_19 (by decide) ?_
    exact x_iret ⟨Nat.le_refl _, Nat.le_refl _⟩ rfl dX7_run_21 ⟨rfl, rfl⟩
  · refine x_iload_n dX7_run_10 rfl ?_
    refine x_iconst (v := nI 0) dX7_run_11 (by decide) ?_
    refine x_iconst (v := nI 2) dX7_run_12 (by decide) ?_
    refine x_callS m_X7_isWithin l_X7_72 (c_within (p := (w).toInt) (q := ((0 : Nat) : Int)) (r := ((2 : Nat) : Int)) rfl (nI_toInt (by omega)) (nI_toInt (by omega))) (by omega) rfl rfl (Nat.le_of_ble_eq_true rfl) ⟨Nat.le_refl _, Nat.le_refl _⟩ dX7_run_13 (fun r3 s3 q3 => ?_)
    obtain ⟨rfl, eq3⟩ := q3
    obtain rfl := eq3.symm
    refine x_stk (st' := [.int (bI (decide (((0 : Nat) : Int) ≤ (w).toInt ∧ (w).toInt ≤ ((2 : Nat) : Int))))]) rfl ?_
    refine x_ifP_ne (P := ((0 : Nat) : Int) ≤ (w).toInt ∧ (w).toInt ≤ ((2 : Nat) : Int)) inferInstance (tgt := 22) dX7_run_16 (by decide) (fun hv4 => ?_) (fun hv4 => ?_)
    · exact absurd hv4 (by omega)
    · refine x_bipush (v := (-2)) dX7_run_19 (by decide) ?_
      exact x_iret ⟨Nat.le_refl _, Nat.le_refl _⟩ rfl dX7_run_21 ⟨rfl, rfl⟩
