/-! the class: tables, bars, company -/
def PaJ (σ : ZS) (p : Nat) : Prop := ∃ (ro di ru : Int32) (n : Nat) (K N : List Nat) (W : List Int32) (D : List Nat), Pa σ p ro di ru n K N W D
theorem PaJ.fr {σ σ' : ZS} {p : Nat} {P : Nat → Prop} (h : PaJ σ p) (hF : Fr P σ σ') (hP : ∀ i, p ≤ i → i ≤ p + 4 → ¬ P i) : PaJ σ' p := by
  obtain ⟨ro, di, ru, n, K, N, W, D, h⟩ := h
  exact ⟨ro, di, ru, n, K, N, W, D, h.fr hF hP⟩
theorem isn {α : Type} {o : Option α} (h : o.isSome = false) : o = none := by
  cases o with
  | none => rfl
  | some y => cases h
theorem dgS_cg {B y : List Nat} : ∀ {k : Nat}, EqM k B y → dgS B k = dgS y k
  | 0, _ => rfl
  | k + 1, h => by rw [dgS, dgS, dgS_cg (fun i hi => h i (by omega)), h k (by omega)]
theorem c_digF {σ : ZS} {A m : Nat} {r : Bool} {wl : List (Option Nat)} {v : Nat → Nat → Nat → Int32} {o : Option (List Nat)} (h : SeF σ A m r wl v o) (hm : m ≤ 7) (hw : W7 wl) {y : List Nat} (hy : o = some y) : Cn 0 M_X5_digits 0 0 [.ref 22] σ (fun r9 σ' => r9 = some (.int (nI (dgS y m))) ∧ σ' = σ) := by
  obtain ⟨bw, jd, fd, en, t, B, Wo, Ho, h, h1, h2, h3⟩ := h
  rw [← dgS_cg (h3 y hy).2]
  exact c_digits h hm h1 hw h2
set_option maxHeartbeats 4000000 in
theorem c_clearest {σ : ZS} {tx ik : Int32} (k0 : zg σ 0 = some (.inr (.inr (6, [.ref 1, .ref 6, .ref 11, .ref 16, .ref 22, .ref 28, .ref 31, .int tx, .int ik])))) {rr dn ru n : Nat} {K N : List Nat} {W : List Int32} {D : List Nat} (h : Pa σ 1 (nI rr) (nI dn) (nI ru) n K N W D) (hr1 : rr ≤ 1) {ri si ki : Nat} {S : List Nat} {lf jf : Nat} (hM : MaW σ ru ri si ki S lf jf) (hJ : SeJ σ) (h11 : PaJ σ 11) : Cn 12 M_X7_isClearest 0 0 [.ref 0] σ (fun r9 σ' => r9 = some (.int (bI (bstB (totB (vW true S lf jf K N W D n) (decide (rr = 1)) n) (lwf (decide (rr = 1)) (2 ^ n - 1) (wlS K N D n (2 ^ n - 1) (-1)))).isSome)) ∧ SeF σ' (2 ^ n - 1) n (decide (rr = 1)) (wlS K N D n (2 ^ n - 1) (-1)) (vW true S lf jf K N W D n) (bstB (totB (vW true S lf jf K N W D n) (decide (rr = 1)) n) (lwf (decide (rr = 1)) (2 ^ n - 1) (wlS K N D n (2 ^ n - 1) (-1)))) ∧ PaJ σ' 11 ∧ MaW σ' ru ri si ki S lf jf ∧ Fr (fun i => i = 18 ∨ i = ki ∨ (11 ≤ i ∧ i ≤ 15) ∨ (22 ≤ i ∧ i ≤ 27)) σ σ') := by
  obtain ⟨bw, am, sz, rd, jd, fd, en, t, B, Wi, Wo, Ho, hSe, ht, hB⟩ := hJ
  obtain ⟨ro9, di9, ru9, n9, K9, N9, W9, D9, hT9⟩ := h11
  have t0 := hT9.1
  have hn7 := h.2.2.2.2.2.1
  have g0 := h.1
  have e0 := hSe.1
  obtain ⟨hpc, h128⟩ := all_bit n hn7
  have hp : (11 : Nat) = 1 ∨ (11 : Nat) = 11 := Or.inr rfl
  have m0 := hM.1
  have hloc := hM.2.2.2.2.2.1
  refine Cn.intro (lv0 := [some (.ref 0)]) rfl (Nat.le_of_ble_eq_true rfl) rfl (fun d hd => ?_)
  refine x_aload_n dX7_isClearest_0 rfl ?_
  refine x_get (v := .ref 11) f_X7_19 k0 rfl dX7_isClearest_1 ?_
  refine x_aload_n dX7_isClearest_4 rfl ?_
  refine x_get (v := .ref 1) f_X7_10 k0 rfl dX7_isClearest_5 ?_
  refine x_callV m_X2_become l_X7_168 (c_become hT9 h (by omega)) rfl t0 (by omega) rfl rfl (Nat.le_of_ble_eq_true rfl) ⟨Nat.le_refl _, Nat.le_refl _⟩ dX7_isClearest_8 (fun r1 s1 q1 => ?_)
  obtain ⟨rfl, P1, F1⟩ := q1
  refine x_stk (st' := []) rfl ?_
  refine x_aload_n dX7_isClearest_11 rfl ?_
  refine x_get (v := .ref 22) f_X7_32 (F1.at (by omega) k0) rfl dX7_isClearest_12 ?_
  refine x_aload_n dX7_isClearest_15 rfl ?_
  refine x_get (v := .ref 11) f_X7_19 (F1.at (by omega) k0) rfl dX7_isClearest_16 ?_
  refine x_aload_n dX7_isClearest_19 rfl ?_
  refine x_get (v := .ref 11) f_X7_19 (F1.at (by omega) k0) rfl dX7_isClearest_20 ?_
  refine x_callV m_X2_everybody l_X7_121 (c_everybody P1) rfl P1.1 (by omega) rfl rfl (Nat.le_of_ble_eq_true rfl) ⟨Nat.le_refl _, Nat.le_refl _⟩ dX7_isClearest_23 (fun r2 s2 q2 => ?_)
  obtain ⟨rfl, eq2⟩ := q2
  obtain rfl := eq2.symm
  refine x_stk (st' := [.int (nI ((2 ^ n - 1))), .ref 11, .ref 22]) rfl ?_
  refine x_iconst (v := (-1)) dX7_isClearest_26 (by decide) ?_
  refine x_callV m_X5_invite l_X7_192 (c_invite (hSe.fr F1 (by omega)) P1 hr1 hp h128 (A := (2 ^ n - 1)) (e := (-1))) rfl (F1.at (by omega) e0) (by omega) rfl rfl (Nat.le_of_ble_eq_true rfl) ⟨Nat.le_refl _, Nat.le_refl _⟩ dX7_isClearest_27 (fun r3 s3 q3 => ?_)
  obtain ⟨rfl, S3, F3⟩ := q3
  refine x_stk (st' := []) rfl ?_
  refine x_aload_n dX7_isClearest_30 rfl ?_
  refine x_get (v := .ref 22) f_X7_32 (F3.at (by omega) (F1.at (by omega) k0)) rfl dX7_isClearest_31 ?_
  refine x_aload_n dX7_isClearest_34 rfl ?_
  refine x_get (v := .ref 16) f_X7_25 (F3.at (by omega) (F1.at (by omega) k0)) rfl dX7_isClearest_35 ?_
  refine x_aload_n dX7_isClearest_38 rfl ?_
  refine x_get (v := .ref 11) f_X7_19 (F3.at (by omega) (F1.at (by omega) k0)) rfl dX7_isClearest_39 ?_
  refine x_iconst (v := nI 1) dX7_isClearest_42 (by decide) ?_
  refine x_topi (y := bI true) (by decide) ?_
  refine x_callV m_X5_weigh l_X7_220 (c_weigh (cl := true) hp (by rw [hpc]; exact hn7) ht (wlS_ok hn7) S3 ((P1).fr F3 (by omega)) (((hM.fr F1 (by omega))).fr F3 (by omega))) rfl S3.1 (by omega) rfl rfl (Nat.le_of_ble_eq_true rfl) ⟨Nat.le_refl _, Nat.le_refl _⟩ dX7_isClearest_43 (fun r4 s4 q4 => ?_)
  obtain ⟨rfl, Wo4, Ho4, S4, P4, M4, F4, WK4, HK4, H04⟩ := q4
  have Wg4 : Wgh (vW true S lf jf K N W D (popc (2 ^ n - 1))) n (decide (rr = 1)) (popc (2 ^ n - 1)) Wo4 Ho4 := Wgh.mk (by rw [hpc]; exact hn7) (fun q => by have := prS_2 q; rw [hpc] at this; exact this) (fun s a b _ _ _ _ => vW_b ⟨h.2.2.2.2.2.2.2.2.2.1, h.2.2.2.2.2.2.2.2.2.2.2.2⟩ h.2.2.2.2.2.2.2.2.2.2.2.1) WK4 HK4 H04
  refine x_stk (st' := []) rfl ?_
  refine x_aload_n dX7_isClearest_46 rfl ?_
  refine x_get (v := .ref 22) f_X7_32 (F4.at (by omega) (F3.at (by omega) (F1.at (by omega) k0))) rfl dX7_isClearest_47 ?_
  refine x_callV m_X5_findBest l_X7_224 (c_fnd (n := n) S4 ht (wlS_ok hn7) hB h128 (fun q hq => all_in hq) Wg4) rfl S4.1 (by omega) rfl rfl (Nat.le_of_ble_eq_true rfl) ⟨Nat.le_refl _, Nat.le_refl _⟩ dX7_isClearest_50 (fun r5 s5 q5 => ?_)
  rw [hpc] at q5
  obtain ⟨rfl, Q5, F5⟩ := q5
  refine x_stk (st' := [.int (bI ((bstB (totB (vW true S lf jf K N W D n) (decide (rr = 1)) n) (lwf (decide (rr = 1)) (2 ^ n - 1) (wlS K N D n (2 ^ n - 1) (-1)))).isSome))]) rfl ?_
  exact x_zret ⟨Nat.le_refl _, Nat.le_refl _⟩ rfl (bI_nar _) dX7_isClearest_53 ⟨rfl, Q5, ⟨_, _, _, _, _, _, _, _, P4.fr F5 (by omega)⟩, M4.fr F5 (by omega), ((((Fr.rf.tr (F1.mono (fun i hi => by omega))).tr (F3.mono (fun i hi => by omega))).tr (F4.mono (fun i hi => by omega))).tr (F5.mono (fun i hi => by omega)))⟩
set_option maxHeartbeats 4000000 in
theorem c_tables0 {σ : ZS} {tx ik : Int32} (k0 : zg σ 0 = some (.inr (.inr (6, [.ref 1, .ref 6, .ref 11, .ref 16, .ref 22, .ref 28, .ref 31, .int tx, .int ik])))) {rr dn ru n : Nat} {K N : List Nat} {W : List Int32} {D : List Nat} (h : Pa σ 1 (nI rr) (nI dn) (nI ru) n K N W D) (hr1 : rr ≤ 1) {ri si ki : Nat} {S : List Nat} {lf jf : Nat} (hM : MaW σ ru ri si ki S lf jf) (hJ : SeJ σ) (h11 : PaJ σ 11) : Cn 14 M_X7_tables 0 0 [.ref 0, .int (nI 0)] σ (fun r9 σ' => r9 = some (.int (TV (decide (rr = 1)) n n D (vW false S lf jf K N W D n) (vW true S lf jf K N W D n) (lwf (decide (rr = 1)) (2 ^ n - 1) (wlS K N D n (2 ^ n - 1) (-1))) 0)) ∧ Pa σ' 1 (nI rr) (nI dn) (nI ru) n K N W D ∧ MaW σ' ru ri si ki S lf jf ∧ SeJ σ' ∧ PaJ σ' 11 ∧ Fr (fun i => i = 18 ∨ i = ki ∨ (1 ≤ i ∧ i ≤ 5) ∨ (11 ≤ i ∧ i ≤ 15) ∨ (22 ≤ i ∧ i ≤ 27)) σ σ') := by
  have hJ9 := hJ
  obtain ⟨bw, am, sz, rd, jd, fd, en, t, B, Wi, Wo, Ho, hSe, ht, hB⟩ := hJ9
  have hn7 := h.2.2.2.2.2.1
  have g0 := h.1
  have e0 := hSe.1
  have hp : (1 : Nat) = 1 ∨ (1 : Nat) = 11 := Or.inl rfl
  have m0 := hM.1
  have hloc := hM.2.2.2.2.2.1
  obtain ⟨-, -, -, -, -, -, -, -, -, -, -, hN9, hD999⟩ := id h
  refine Cn.intro (lv0 := [some (.ref 0), some (.int (nI 0))]) rfl (Nat.le_of_ble_eq_true rfl) rfl (fun d hd => ?_)
  refine x_iload_n dX7_tables_0 rfl ?_
  refine x_tableIn (tgt := 36) dX7_tables_1 (by decide) (by decide) rfl (by decide) ?_
  refine x_aload_n dX7_tables_36 rfl ?_
  refine x_aload_n dX7_tables_37 rfl ?_
  refine x_get (v := .ref 1) f_X7_10 k0 rfl dX7_tables_38 ?_
  refine x_callV m_X7_lawfulTables l_X7_196 (c_lawful k0 hp h hr1 hJ) rfl k0 (by omega) rfl rfl (Nat.le_of_ble_eq_true rfl) ⟨Nat.le_refl _, Nat.le_refl _⟩ dX7_tables_41 (fun r1 s1 q1 => ?_)
  obtain ⟨rfl, J1, F1⟩ := q1
  refine x_stk (st' := [.int (nI ((lwf (decide (rr = 1)) (2 ^ n - 1) (wlS K N D n (2 ^ n - 1) (-1))).length))]) rfl ?_
  exact x_iret ⟨Nat.le_refl _, Nat.le_refl _⟩ rfl dX7_tables_44 ⟨rfl, (h.fr F1 (by omega)), (hM.fr F1 (by omega)), J1, (h11.fr F1 (by omega)), (Fr.rf.tr (F1.mono (fun i hi => by omega)))⟩
set_option maxHeartbeats 4000000 in
theorem c_tables1 {σ : ZS} {tx ik : Int32} (k0 : zg σ 0 = some (.inr (.inr (6, [.ref 1, .ref 6, .ref 11, .ref 16, .ref 22, .ref 28, .ref 31, .int tx, .int ik])))) {rr dn ru n : Nat} {K N : List Nat} {W : List Int32} {D : List Nat} (h : Pa σ 1 (nI rr) (nI dn) (nI ru) n K N W D) (hr1 : rr ≤ 1) {ri si ki : Nat} {S : List Nat} {lf jf : Nat} (hM : MaW σ ru ri si ki S lf jf) (hJ : SeJ σ) (h11 : PaJ σ 11) : Cn 14 M_X7_tables 0 0 [.ref 0, .int (nI 1)] σ (fun r9 σ' => r9 = some (.int (TV (decide (rr = 1)) n n D (vW false S lf jf K N W D n) (vW true S lf jf K N W D n) (lwf (decide (rr = 1)) (2 ^ n - 1) (wlS K N D n (2 ^ n - 1) (-1))) 1)) ∧ Pa σ' 1 (nI rr) (nI dn) (nI ru) n K N W D ∧ MaW σ' ru ri si ki S lf jf ∧ SeJ σ' ∧ PaJ σ' 11 ∧ Fr (fun i => i = 18 ∨ i = ki ∨ (1 ≤ i ∧ i ≤ 5) ∨ (11 ≤ i ∧ i ≤ 15) ∨ (22 ≤ i ∧ i ≤ 27)) σ σ') := by
  have hJ9 := hJ
  obtain ⟨bw, am, sz, rd, jd, fd, en, t, B, Wi, Wo, Ho, hSe, ht, hB⟩ := hJ9
  have hn7 := h.2.2.2.2.2.1
  have g0 := h.1
  have e0 := hSe.1
  have hp : (1 : Nat) = 1 ∨ (1 : Nat) = 11 := Or.inl rfl
  have m0 := hM.1
  have hloc := hM.2.2.2.2.2.1
  obtain ⟨-, -, -, -, -, -, -, -, -, -, -, hN9, hD999⟩ := id h
  refine Cn.intro (lv0 := [some (.ref 0), some (.int (nI 1))]) rfl (Nat.le_of_ble_eq_true rfl) rfl (fun d hd => ?_)
  refine x_iload_n dX7_tables_0 rfl ?_
  refine x_tableIn (tgt := 45) dX7_tables_1 (by decide) (by decide) rfl (by decide) ?_
  refine x_aload_n dX7_tables_45 rfl ?_
  refine x_aload_n dX7_tables_46 rfl ?_
  refine x_get (v := .ref 1) f_X7_10 k0 rfl dX7_tables_47 ?_
  refine x_callV m_X7_isGladdest l_X7_200 (c_gladdest k0 hp h hr1 hM hJ) rfl k0 (by omega) rfl rfl (Nat.le_of_ble_eq_true rfl) ⟨Nat.le_refl _, Nat.le_refl _⟩ dX7_tables_50 (fun r1 s1 q1 => ?_)
  obtain ⟨rfl, Q1, P1, M1, F1⟩ := q1
  obtain ⟨bw1, jd1, fd1, en1, tt1, BB1, Wo1, Ho1, Sx1, T11, T21, bh1⟩ := id Q1
  refine x_stk (st' := [.int (bI ((bstB (totB (vW false S lf jf K N W D n) (decide (rr = 1)) n) (lwf (decide (rr = 1)) (2 ^ n - 1) (wlS K N D n (2 ^ n - 1) (-1)))).isSome))]) rfl ?_
  refine x_ifB_eq (tgt := 66) dX7_tables_53 (by decide) (fun hv2 => ?_) (fun hv2 => ?_)
  · refine x_iconst (v := nI 0) dX7_tables_66 (by decide) ?_
    exact x_iret ⟨Nat.le_refl _, Nat.le_refl _⟩ rfl dX7_tables_67 ⟨by rw [show (TV (decide (rr = 1)) n n D (vW false S lf jf K N W D n) (vW true S lf jf K N W D n) (lwf (decide (rr = 1)) (2 ^ n - 1) (wlS K N D n (2 ^ n - 1) (-1))) 1) = (match (bstB (totB (vW false S lf jf K N W D n) (decide (rr = 1)) n) (lwf (decide (rr = 1)) (2 ^ n - 1) (wlS K N D n (2 ^ n - 1) (-1)))) with | none => nI 0 | some y => nI (dgS y n)) from rfl, isn hv2], P1, M1, Q1.j, (h11.fr F1 (by omega)), (Fr.rf.tr (F1.mono (fun i hi => by omega)))⟩
  · obtain ⟨y, hy⟩ := Option.isSome_iff_exists.mp hv2
    refine x_aload_n dX7_tables_56 rfl ?_
    refine x_get (v := .ref 22) f_X7_32 (F1.at (by omega) k0) rfl dX7_tables_57 ?_
    refine x_callV m_X5_digits l_X7_204 (c_digF Q1 hn7 (wlS_ok hn7) hy) rfl Sx1.1 (by omega) rfl rfl (Nat.le_of_ble_eq_true rfl) ⟨Nat.le_refl _, Nat.le_refl _⟩ dX7_tables_60 (fun r3 s3 q3 => ?_)
    obtain ⟨rfl, eq3⟩ := q3
    obtain rfl := eq3.symm
    refine x_stk (st' := [.int (nI ((dgS y n)))]) rfl ?_
    refine x_goto (tgt := 67) dX7_tables_63 (by decide) ?_
    exact x_iret ⟨Nat.le_refl _, Nat.le_refl _⟩ rfl dX7_tables_67 ⟨by rw [show (TV (decide (rr = 1)) n n D (vW false S lf jf K N W D n) (vW true S lf jf K N W D n) (lwf (decide (rr = 1)) (2 ^ n - 1) (wlS K N D n (2 ^ n - 1) (-1))) 1) = (match (bstB (totB (vW false S lf jf K N W D n) (decide (rr = 1)) n) (lwf (decide (rr = 1)) (2 ^ n - 1) (wlS K N D n (2 ^ n - 1) (-1)))) with | none => nI 0 | some y => nI (dgS y n)) from rfl, hy], P1, M1, Q1.j, (h11.fr F1 (by omega)), (Fr.rf.tr (F1.mono (fun i hi => by omega)))⟩
set_option maxHeartbeats 4000000 in
theorem c_tables2 {σ : ZS} {tx ik : Int32} (k0 : zg σ 0 = some (.inr (.inr (6, [.ref 1, .ref 6, .ref 11, .ref 16, .ref 22, .ref 28, .ref 31, .int tx, .int ik])))) {rr dn ru n : Nat} {K N : List Nat} {W : List Int32} {D : List Nat} (h : Pa σ 1 (nI rr) (nI dn) (nI ru) n K N W D) (hr1 : rr ≤ 1) {ri si ki : Nat} {S : List Nat} {lf jf : Nat} (hM : MaW σ ru ri si ki S lf jf) (hJ : SeJ σ) (h11 : PaJ σ 11) : Cn 14 M_X7_tables 0 0 [.ref 0, .int (nI 2)] σ (fun r9 σ' => r9 = some (.int (TV (decide (rr = 1)) n n D (vW false S lf jf K N W D n) (vW true S lf jf K N W D n) (lwf (decide (rr = 1)) (2 ^ n - 1) (wlS K N D n (2 ^ n - 1) (-1))) 2)) ∧ Pa σ' 1 (nI rr) (nI dn) (nI ru) n K N W D ∧ MaW σ' ru ri si ki S lf jf ∧ SeJ σ' ∧ PaJ σ' 11 ∧ Fr (fun i => i = 18 ∨ i = ki ∨ (1 ≤ i ∧ i ≤ 5) ∨ (11 ≤ i ∧ i ≤ 15) ∨ (22 ≤ i ∧ i ≤ 27)) σ σ') := by
  have hJ9 := hJ
  obtain ⟨bw, am, sz, rd, jd, fd, en, t, B, Wi, Wo, Ho, hSe, ht, hB⟩ := hJ9
  have hn7 := h.2.2.2.2.2.1
  have g0 := h.1
  have e0 := hSe.1
  have hp : (1 : Nat) = 1 ∨ (1 : Nat) = 11 := Or.inl rfl
  have m0 := hM.1
  have hloc := hM.2.2.2.2.2.1
  obtain ⟨-, -, -, -, -, -, -, -, -, -, -, hN9, hD999⟩ := id h
  refine Cn.intro (lv0 := [some (.ref 0), some (.int (nI 2))]) rfl (Nat.le_of_ble_eq_true rfl) rfl (fun d hd => ?_)
  refine x_iload_n dX7_tables_0 rfl ?_
  refine x_tableIn (tgt := 68) dX7_tables_1 (by decide) (by decide) rfl (by decide) ?_
  refine x_aload_n dX7_tables_68 rfl ?_
  refine x_aload_n dX7_tables_69 rfl ?_
  refine x_get (v := .ref 1) f_X7_10 k0 rfl dX7_tables_70 ?_
  refine x_callV m_X7_isGladdest l_X7_200 (c_gladdest k0 hp h hr1 hM hJ) rfl k0 (by omega) rfl rfl (Nat.le_of_ble_eq_true rfl) ⟨Nat.le_refl _, Nat.le_refl _⟩ dX7_tables_73 (fun r1 s1 q1 => ?_)
  obtain ⟨rfl, Q1, P1, M1, F1⟩ := q1
  obtain ⟨bw1, jd1, fd1, en1, tt1, BB1, Wo1, Ho1, Sx1, T11, T21, bh1⟩ := id Q1
  refine x_stk (st' := [.int (bI ((bstB (totB (vW false S lf jf K N W D n) (decide (rr = 1)) n) (lwf (decide (rr = 1)) (2 ^ n - 1) (wlS K N D n (2 ^ n - 1) (-1)))).isSome))]) rfl ?_
  refine x_ifB_eq (tgt := 89) dX7_tables_76 (by decide) (fun hv2 => ?_) (fun hv2 => ?_)
  · refine x_iconst (v := nI 0) dX7_tables_89 (by decide) ?_
    exact x_iret ⟨Nat.le_refl _, Nat.le_refl _⟩ rfl dX7_tables_90 ⟨by rw [show (TV (decide (rr = 1)) n n D (vW false S lf jf K N W D n) (vW true S lf jf K N W D n) (lwf (decide (rr = 1)) (2 ^ n - 1) (wlS K N D n (2 ^ n - 1) (-1))) 2) = (match (bstB (totB (vW false S lf jf K N W D n) (decide (rr = 1)) n) (lwf (decide (rr = 1)) (2 ^ n - 1) (wlS K N D n (2 ^ n - 1) (-1)))) with | none => nI 0 | some y => Int32.ofInt (totB (vW false S lf jf K N W D n) (decide (rr = 1)) n y)) from rfl, isn hv2], P1, M1, Q1.j, (h11.fr F1 (by omega)), (Fr.rf.tr (F1.mono (fun i hi => by omega)))⟩
  · obtain ⟨y, hy⟩ := Option.isSome_iff_exists.mp hv2
    refine x_aload_n dX7_tables_79 rfl ?_
    refine x_get (v := .ref 22) f_X7_32 (F1.at (by omega) k0) rfl dX7_tables_80 ?_
    refine x_get (v := .int bw1) f_X7_207 Sx1.1 rfl dX7_tables_83 ?_
    refine x_goto (tgt := 90) dX7_tables_86 (by decide) ?_
    exact x_iret ⟨Nat.le_refl _, Nat.le_refl _⟩ rfl dX7_tables_90 ⟨by rw [show (TV (decide (rr = 1)) n n D (vW false S lf jf K N W D n) (vW true S lf jf K N W D n) (lwf (decide (rr = 1)) (2 ^ n - 1) (wlS K N D n (2 ^ n - 1) (-1))) 2) = (match (bstB (totB (vW false S lf jf K N W D n) (decide (rr = 1)) n) (lwf (decide (rr = 1)) (2 ^ n - 1) (wlS K N D n (2 ^ n - 1) (-1)))) with | none => nI 0 | some y => Int32.ofInt (totB (vW false S lf jf K N W D n) (decide (rr = 1)) n y)) from rfl, hy]; exact congrArg (fun z => some (Value.int z)) (ofI (bh1 y hy).1), P1, M1, Q1.j, (h11.fr F1 (by omega)), (Fr.rf.tr (F1.mono (fun i hi => by omega)))⟩
set_option maxHeartbeats 4000000 in
theorem c_tables3 {σ : ZS} {tx ik : Int32} (k0 : zg σ 0 = some (.inr (.inr (6, [.ref 1, .ref 6, .ref 11, .ref 16, .ref 22, .ref 28, .ref 31, .int tx, .int ik])))) {rr dn ru n : Nat} {K N : List Nat} {W : List Int32} {D : List Nat} (h : Pa σ 1 (nI rr) (nI dn) (nI ru) n K N W D) (hr1 : rr ≤ 1) {ri si ki : Nat} {S : List Nat} {lf jf : Nat} (hM : MaW σ ru ri si ki S lf jf) (hJ : SeJ σ) (h11 : PaJ σ 11) : Cn 14 M_X7_tables 0 0 [.ref 0, .int (nI 3)] σ (fun r9 σ' => r9 = some (.int (TV (decide (rr = 1)) n n D (vW false S lf jf K N W D n) (vW true S lf jf K N W D n) (lwf (decide (rr = 1)) (2 ^ n - 1) (wlS K N D n (2 ^ n - 1) (-1))) 3)) ∧ Pa σ' 1 (nI rr) (nI dn) (nI ru) n K N W D ∧ MaW σ' ru ri si ki S lf jf ∧ SeJ σ' ∧ PaJ σ' 11 ∧ Fr (fun i => i = 18 ∨ i = ki ∨ (1 ≤ i ∧ i ≤ 5) ∨ (11 ≤ i ∧ i ≤ 15) ∨ (22 ≤ i ∧ i ≤ 27)) σ σ') := by
  have hJ9 := hJ
  obtain ⟨bw, am, sz, rd, jd, fd, en, t, B, Wi, Wo, Ho, hSe, ht, hB⟩ := hJ9
  have hn7 := h.2.2.2.2.2.1
  have g0 := h.1
  have e0 := hSe.1
  have hp : (1 : Nat) = 1 ∨ (1 : Nat) = 11 := Or.inl rfl
  have m0 := hM.1
  have hloc := hM.2.2.2.2.2.1
  obtain ⟨-, -, -, -, -, -, -, -, -, -, -, hN9, hD999⟩ := id h
  refine Cn.intro (lv0 := [some (.ref 0), some (.int (nI 3))]) rfl (Nat.le_of_ble_eq_true rfl) rfl (fun d hd => ?_)
  refine x_iload_n dX7_tables_0 rfl ?_
  refine x_tableIn (tgt := 91) dX7_tables_1 (by decide) (by decide) rfl (by decide) ?_
  refine x_aload_n dX7_tables_91 rfl ?_
  refine x_callV m_X7_isClearest l_X7_210 (c_clearest k0 h hr1 hM hJ h11) rfl k0 (by omega) rfl rfl (Nat.le_of_ble_eq_true rfl) ⟨Nat.le_refl _, Nat.le_refl _⟩ dX7_tables_92 (fun r1 s1 q1 => ?_)
  obtain ⟨rfl, Q1, T1, M1, F1⟩ := q1
  obtain ⟨bw1, jd1, fd1, en1, tt1, BB1, Wo1, Ho1, Sx1, T11, T21, bh1⟩ := id Q1
  refine x_stk (st' := [.int (bI ((bstB (totB (vW true S lf jf K N W D n) (decide (rr = 1)) n) (lwf (decide (rr = 1)) (2 ^ n - 1) (wlS K N D n (2 ^ n - 1) (-1)))).isSome))]) rfl ?_
  refine x_ifB_eq (tgt := 108) dX7_tables_95 (by decide) (fun hv2 => ?_) (fun hv2 => ?_)
  · refine x_iconst (v := nI 0) dX7_tables_108 (by decide) ?_
    exact x_iret ⟨Nat.le_refl _, Nat.le_refl _⟩ rfl dX7_tables_109 ⟨by rw [show (TV (decide (rr = 1)) n n D (vW false S lf jf K N W D n) (vW true S lf jf K N W D n) (lwf (decide (rr = 1)) (2 ^ n - 1) (wlS K N D n (2 ^ n - 1) (-1))) 3) = (match (bstB (totB (vW true S lf jf K N W D n) (decide (rr = 1)) n) (lwf (decide (rr = 1)) (2 ^ n - 1) (wlS K N D n (2 ^ n - 1) (-1)))) with | none => nI 0 | some y => nI (dgS y n)) from rfl, isn hv2], (h.fr F1 (by omega)), M1, Q1.j, T1, (Fr.rf.tr (F1.mono (fun i hi => by omega)))⟩
  · obtain ⟨y, hy⟩ := Option.isSome_iff_exists.mp hv2
    refine x_aload_n dX7_tables_98 rfl ?_
    refine x_get (v := .ref 22) f_X7_32 (F1.at (by omega) k0) rfl dX7_tables_99 ?_
    refine x_callV m_X5_digits l_X7_204 (c_digF Q1 hn7 (wlS_ok hn7) hy) rfl Sx1.1 (by omega) rfl rfl (Nat.le_of_ble_eq_true rfl) ⟨Nat.le_refl _, Nat.le_refl _⟩ dX7_tables_102 (fun r3 s3 q3 => ?_)
    obtain ⟨rfl, eq3⟩ := q3
    obtain rfl := eq3.symm
    refine x_stk (st' := [.int (nI ((dgS y n)))]) rfl ?_
    refine x_goto (tgt := 109) dX7_tables_105 (by decide) ?_
    exact x_iret ⟨Nat.le_refl _, Nat.le_refl _⟩ rfl dX7_tables_109 ⟨by rw [show (TV (decide (rr = 1)) n n D (vW false S lf jf K N W D n) (vW true S lf jf K N W D n) (lwf (decide (rr = 1)) (2 ^ n - 1) (wlS K N D n (2 ^ n - 1) (-1))) 3) = (match (bstB (totB (vW true S lf jf K N W D n) (decide (rr = 1)) n) (lwf (decide (rr = 1)) (2 ^ n - 1) (wlS K N D n (2 ^ n - 1) (-1)))) with | none => nI 0 | some y => nI (dgS y n)) from rfl, hy], (h.fr F1 (by omega)), M1, Q1.j, T1, (Fr.rf.tr (F1.mono (fun i hi => by omega)))⟩
set_option maxHeartbeats 4000000 in
theorem c_tables4 {σ : ZS} {tx ik : Int32} (k0 : zg σ 0 = some (.inr (.inr (6, [.ref 1, .ref 6, .ref 11, .ref 16, .ref 22, .ref 28, .ref 31, .int tx, .int ik])))) {rr dn ru n : Nat} {K N : List Nat} {W : List Int32} {D : List Nat} (h : Pa σ 1 (nI rr) (nI dn) (nI ru) n K N W D) (hr1 : rr ≤ 1) {ri si ki : Nat} {S : List Nat} {lf jf : Nat} (hM : MaW σ ru ri si ki S lf jf) (hJ : SeJ σ) (h11 : PaJ σ 11) : Cn 14 M_X7_tables 0 0 [.ref 0, .int (nI 4)] σ (fun r9 σ' => r9 = some (.int (TV (decide (rr = 1)) n n D (vW false S lf jf K N W D n) (vW true S lf jf K N W D n) (lwf (decide (rr = 1)) (2 ^ n - 1) (wlS K N D n (2 ^ n - 1) (-1))) 4)) ∧ Pa σ' 1 (nI rr) (nI dn) (nI ru) n K N W D ∧ MaW σ' ru ri si ki S lf jf ∧ SeJ σ' ∧ PaJ σ' 11 ∧ Fr (fun i => i = 18 ∨ i = ki ∨ (1 ≤ i ∧ i ≤ 5) ∨ (11 ≤ i ∧ i ≤ 15) ∨ (22 ≤ i ∧ i ≤ 27)) σ σ') := by
  have hJ9 := hJ
  obtain ⟨bw, am, sz, rd, jd, fd, en, t, B, Wi, Wo, Ho, hSe, ht, hB⟩ := hJ9
  have hn7 := h.2.2.2.2.2.1
  have g0 := h.1
  have e0 := hSe.1
  have hp : (1 : Nat) = 1 ∨ (1 : Nat) = 11 := Or.inl rfl
  have m0 := hM.1
  have hloc := hM.2.2.2.2.2.1
  obtain ⟨-, -, -, -, -, -, -, -, -, -, -, hN9, hD999⟩ := id h
  refine Cn.intro (lv0 := [some (.ref 0), some (.int (nI 4))]) rfl (Nat.le_of_ble_eq_true rfl) rfl (fun d hd => ?_)
  refine x_iload_n dX7_tables_0 rfl ?_
  refine x_tableIn (tgt := 110) dX7_tables_1 (by decide) (by decide) rfl (by decide) ?_
  refine x_aload_n dX7_tables_110 rfl ?_
  refine x_callV m_X7_isClearest l_X7_210 (c_clearest k0 h hr1 hM hJ h11) rfl k0 (by omega) rfl rfl (Nat.le_of_ble_eq_true rfl) ⟨Nat.le_refl _, Nat.le_refl _⟩ dX7_tables_111 (fun r1 s1 q1 => ?_)
  obtain ⟨rfl, Q1, T1, M1, F1⟩ := q1
  obtain ⟨bw1, jd1, fd1, en1, tt1, BB1, Wo1, Ho1, Sx1, T11, T21, bh1⟩ := id Q1
  refine x_stk (st' := [.int (bI ((bstB (totB (vW true S lf jf K N W D n) (decide (rr = 1)) n) (lwf (decide (rr = 1)) (2 ^ n - 1) (wlS K N D n (2 ^ n - 1) (-1)))).isSome))]) rfl ?_
  refine x_ifB_eq (tgt := 135) dX7_tables_114 (by decide) (fun hv2 => ?_) (fun hv2 => ?_)
  · refine x_iconst (v := (-1)) dX7_tables_135 (by decide) ?_
    exact x_iret ⟨Nat.le_refl _, Nat.le_refl _⟩ rfl dX7_tables_136 ⟨by rw [show (TV (decide (rr = 1)) n n D (vW false S lf jf K N W D n) (vW true S lf jf K N W D n) (lwf (decide (rr = 1)) (2 ^ n - 1) (wlS K N D n (2 ^ n - 1) (-1))) 4) = (match (bstB (totB (vW true S lf jf K N W D n) (decide (rr = 1)) n) (lwf (decide (rr = 1)) (2 ^ n - 1) (wlS K N D n (2 ^ n - 1) (-1)))) with | none => -1 | some y => Int32.ofInt (((allS D n n : Nat) : Int) - totB (vW true S lf jf K N W D n) (decide (rr = 1)) n y)) from rfl, isn hv2], (h.fr F1 (by omega)), M1, Q1.j, T1, (Fr.rf.tr (F1.mono (fun i hi => by omega)))⟩
  · obtain ⟨y, hy⟩ := Option.isSome_iff_exists.mp hv2
    refine x_aload_n dX7_tables_117 rfl ?_
    refine x_get (v := .ref 1) f_X7_10 (F1.at (by omega) k0) rfl dX7_tables_118 ?_
    refine x_callV m_X2_owed l_X7_176 (c_owed (h.fr F1 (by omega))) rfl (F1.at (by omega) g0) (by omega) rfl rfl (Nat.le_of_ble_eq_true rfl) ⟨Nat.le_refl _, Nat.le_refl _⟩ dX7_tables_121 (fun r3 s3 q3 => ?_)
    obtain ⟨rfl, eq3⟩ := q3
    obtain rfl := eq3.symm
    refine x_stk (st' := [.int (nI ((allS D n n)))]) rfl ?_
    refine x_aload_n dX7_tables_124 rfl ?_
    refine x_get (v := .ref 22) f_X7_32 (F1.at (by omega) k0) rfl dX7_tables_125 ?_
    refine x_get (v := .int bw1) f_X7_207 Sx1.1 rfl dX7_tables_128 ?_
    refine x_isub dX7_tables_131 ?_
    refine x_goto (tgt := 136) dX7_tables_132 (by decide) ?_
    exact x_iret ⟨Nat.le_refl _, Nat.le_refl _⟩ rfl dX7_tables_136 ⟨by rw [show (TV (decide (rr = 1)) n n D (vW false S lf jf K N W D n) (vW true S lf jf K N W D n) (lwf (decide (rr = 1)) (2 ^ n - 1) (wlS K N D n (2 ^ n - 1) (-1))) 4) = (match (bstB (totB (vW true S lf jf K N W D n) (decide (rr = 1)) n) (lwf (decide (rr = 1)) (2 ^ n - 1) (wlS K N D n (2 ^ n - 1) (-1)))) with | none => -1 | some y => Int32.ofInt (((allS D n n : Nat) : Int) - totB (vW true S lf jf K N W D n) (decide (rr = 1)) n y)) from rfl, hy]; show some (Value.int (nI (allS D n n) - bw1)) = some (Value.int (Int32.ofInt (((allS D n n : Nat) : Int) - totB (vW true S lf jf K N W D n) (decide (rr = 1)) n y))); rw [Int32.ofInt_sub, ← ofI (nI_toInt (by have := allS_le hD999 hn7 n; omega)), ← ofI (bh1 y hy).1], (h.fr F1 (by omega)), M1, Q1.j, T1, (Fr.rf.tr (F1.mono (fun i hi => by omega)))⟩
set_option maxHeartbeats 4000000 in
theorem c_tables_b {σ : ZS} {tx ik : Int32} (k0 : zg σ 0 = some (.inr (.inr (6, [.ref 1, .ref 6, .ref 11, .ref 16, .ref 22, .ref 28, .ref 31, .int tx, .int ik])))) {rr dn ru n : Nat} {K N : List Nat} {W : List Int32} {D : List Nat} (h : Pa σ 1 (nI rr) (nI dn) (nI ru) n K N W D) (hr1 : rr ≤ 1) {x : Int32} (hx : ¬ (0 ≤ x.toInt ∧ x.toInt ≤ 4)) : Cn 14 M_X7_tables 0 0 [.ref 0, .int x] σ (fun r9 σ' => r9 = some (.int (-2)) ∧ σ' = σ) := by
  refine Cn.intro (lv0 := [some (.ref 0), some (.int x)]) rfl (Nat.le_of_ble_eq_true rfl) rfl (fun d hd => ?_)
  refine x_iload_n dX7_tables_0 rfl ?_
  refine x_tableOut (tgt := 137) dX7_tables_1 (by omega) (by decide) ?_
  refine x_bipush (v := (-2)) dX7_tables_137 (by decide) ?_
  exact x_iret ⟨Nat.le_refl _, Nat.le_refl _⟩ rfl dX7_tables_139 ⟨rfl, rfl⟩
