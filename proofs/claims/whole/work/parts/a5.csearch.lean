/-! the class's search, its answers as the leaves tell them -/
def SeJ (σ : ZS) : Prop := ∃ (bw am sz rd jd fd en : Int32) (t B : List Nat) (Wi Wo Ho : List Int32), Se σ bw am sz rd jd fd en (t.map nI) Wi (B.map nI) Wo Ho ∧ T7 t ∧ T7 B
theorem SeJ.fr {σ σ' : ZS} {P : Nat → Prop} (h : SeJ σ) (hF : Fr P σ σ') (hP : ∀ i, 22 ≤ i ∧ i ≤ 27 → ¬ P i) : SeJ σ' := by
  obtain ⟨bw, am, sz, rd, jd, fd, en, t, B, Wi, Wo, Ho, h, h1, h2⟩ := h
  exact ⟨bw, am, sz, rd, jd, fd, en, t, B, Wi, Wo, Ho, h.fr hF hP, h1, h2⟩
/-- the seating behind a search for the best: o is what was found -/
def SeF (σ : ZS) (A m : Nat) (r : Bool) (wl : List (Option Nat)) (v : Nat → Nat → Nat → Int32) (o : Option (List Nat)) : Prop := ∃ (bw jd fd en : Int32) (t B : List Nat) (Wo Ho : List Int32), Se σ bw (nI A) (nI m) (bI r) jd fd en (t.map nI) (wl.map oI) (B.map nI) Wo Ho ∧ T7 t ∧ T7 B ∧ ∀ y, o = some y → bw.toInt = totB v r m y ∧ EqM m B y
theorem SeF.j {σ : ZS} {A m : Nat} {r : Bool} {wl : List (Option Nat)} {v : Nat → Nat → Nat → Int32} {o : Option (List Nat)} (h : SeF σ A m r wl v o) : SeJ σ := by
  obtain ⟨bw, jd, fd, en, t, B, Wo, Ho, h, h1, h2, -⟩ := h
  exact ⟨_, _, _, _, _, _, _, t, B, _, Wo, Ho, h, h1, h2⟩
theorem SeF.fr {σ σ' : ZS} {P : Nat → Prop} {A m : Nat} {r : Bool} {wl : List (Option Nat)} {v : Nat → Nat → Nat → Int32} {o : Option (List Nat)} (h : SeF σ A m r wl v o) (hF : Fr P σ σ') (hP : ∀ i, 22 ≤ i ∧ i ≤ 27 → ¬ P i) : SeF σ' A m r wl v o := by
  obtain ⟨bw, jd, fd, en, t, B, Wo, Ho, h, h1⟩ := h
  exact ⟨bw, jd, fd, en, t, B, Wo, Ho, h.fr hF hP, h1⟩
theorem c_cnt {σ : ZS} {bw jd fd en : Int32} {A n : Nat} {r : Bool} {t B : List Nat} {wl : List (Option Nat)} {Wo Ho : List Int32} (h : Se σ bw (nI A) (nI (popc A)) (bI r) jd fd en (t.map nI) (wl.map oI) (B.map nI) Wo Ho) (ht : T7 t) (hw : W7 wl) (hB : T7 B) (hA : A < 128) (hb : ∀ p, A.testBit p = true → p < n) {mo : Int32} (hmo : 0 < mo.toInt) : Cn 11 M_X5_countUpTo 0 0 [.ref 22, .int mo] σ (fun r9 σ' => r9 = some (.int (nI (min mo.toInt.toNat (lwf r A wl).length))) ∧ SeJ σ' ∧ Fr (fun i => 22 ≤ i ∧ i ≤ 25) σ σ') := by
  refine (c_countUpTo h (popc_le A hA) ht hw hB hA (mo := mo)).mono (fun r9 σ' hq => ?_)
  obtain ⟨h1, h2, h3, h4⟩ := hq
  have e := cls_cnt (n := n) (r := r) (A := A) (wl := wl) (Wo := Wo) (Ho := Ho) (t := t) (B := B) (mo := mo) (bw := bw) (sum := nI 0) hA hb ht.1 hmo
  have hl := tbs_len (r := r) hA
  have hl2 : (lwf r A wl).length ≤ (tbs r A).length := List.length_filter_le _ _
  refine ⟨?_, ⟨_, _, _, _, _, _, _, _, _, _, _, _, h2, h3.1, h3.2⟩, h4⟩
  rw [h1]
  congr 2
  apply Int32.toInt_inj.mp
  rw [e, nI_toInt (by omega)]
  omega
theorem c_fnd {σ : ZS} {bw jd fd en : Int32} {A n : Nat} {r : Bool} {t B : List Nat} {wl : List (Option Nat)} {Wo Ho : List Int32} {v : Nat → Nat → Nat → Int32} (h : Se σ bw (nI A) (nI (popc A)) (bI r) jd fd en (t.map nI) (wl.map oI) (B.map nI) Wo Ho) (ht : T7 t) (hw : W7 wl) (hB : T7 B) (hA : A < 128) (hb : ∀ p, A.testBit p = true → p < n) (hW : Wgh v n r (popc A) Wo Ho) : Cn 11 M_X5_findBest 0 0 [.ref 22] σ (fun r9 σ' => r9 = some (.int (bI (bstB (totB v r (popc A)) (lwf r A wl)).isSome)) ∧ SeF σ' A (popc A) r wl v (bstB (totB v r (popc A)) (lwf r A wl)) ∧ Fr (fun i => 22 ≤ i ∧ i ≤ 25) σ σ') := by
  refine (c_findBest h (popc_le A hA) ht hw hB hA).mono (fun r9 σ' hq => ?_)
  obtain ⟨h1, h2, h3, h4⟩ := hq
  have e := cls_best (n := n) (r := r) (A := A) (wl := wl) (Wo := Wo) (Ho := Ho) (t := t) (B := B) hA hb ht.1 hW (bw := nI 0)
  refine ⟨?_, ?_, h4⟩
  · rw [h1]
    congr 3
    cases hx : bstB (totB v r (popc A)) (lwf r A wl) with
    | none => rw [hx] at e; exact decide_eq_false (by have := show _ = (0 : Int) from e; omega)
    | some y => rw [hx] at e; exact decide_eq_true e.1
  · refine ⟨_, _, _, _, _, _, _, _, h2, h3.1, h3.2, fun y hy => ?_⟩
    rw [hy] at e
    exact e.2
theorem vW_b {cl : Bool} {S : List Nat} {lf jf : Nat} {K N : List Nat} {W : List Int32} {D : List Nat} {m s a b : Nat} (hD : D49 D) (hN : ∀ k, N.getD k 0 ≤ 9) : -2000 ≤ (vW cl S lf jf K N W D m s a b).toInt ∧ (vW cl S lf jf K N W D m s a b).toInt ≤ 2000 := by
  unfold vW
  by_cases c : cl = true
  · rw [if_pos c]
    exact (clI_Z hD).2
  · rw [if_neg c, jpI_Z hN]
    have h1 := gdI_b (S := S) (jf := jf) (K := K) (N := N) (W := W) (D := D) (a := a) (b := b) (s := s) (m := m) hN
    have h2 := gdI_b (S := S) (jf := jf) (K := K) (N := N) (W := W) (D := D) (a := b) (b := a) (s := nxS m s) (m := m) hN
    omega
theorem min_all {r : Bool} {A : Nat} {wl : List (Option Nat)} (hA : A < 128) : min (nI 2147483647).toInt.toNat (lwf r A wl).length = (lwf r A wl).length := by
  have h1 := tbs_len (r := r) hA
  have h2 : (lwf r A wl).length ≤ (tbs r A).length := List.length_filter_le _ _
  have h3 : (nI 2147483647).toInt = 2147483647 := by decide
  rw [h3]
  omega
theorem min_one {x : Nat} : 0 < min (nI 1).toInt.toNat x ↔ 0 < x := by
  have h9 : (nI 1).toInt.toNat = 1 := by decide
  rw [h9]
  omega
theorem min_le1 {x : Nat} : min (nI 1).toInt.toNat x ≤ 1 := by
  have h9 : (nI 1).toInt.toNat = 1 := by decide
  rw [h9]
  omega
theorem prS_2 {r : Bool} {m : Nat} (h : 0 < prS r m) : 2 ≤ m := by
  unfold prS at h
  split at h <;> omega
set_option maxHeartbeats 4000000 in
theorem c_lawful {σ : ZS} {tx ik : Int32} (k0 : zg σ 0 = some (.inr (.inr (6, [.ref 1, .ref 6, .ref 11, .ref 16, .ref 22, .ref 28, .ref 31, .int tx, .int ik])))) {p : Nat} (hp : p = 1 ∨ p = 11) {rr n : Nat} {di ru : Int32} {K N : List Nat} {W : List Int32} {D : List Nat} (h : Pa σ p (nI rr) di ru n K N W D) (hr1 : rr ≤ 1) (hJ : SeJ σ) : Cn 12 M_X7_lawfulTables 0 0 [.ref 0, .ref p] σ (fun r9 σ' => r9 = some (.int (nI (lwf (decide (rr = 1)) (2 ^ n - 1) (wlS K N D n (2 ^ n - 1) (-1))).length)) ∧ SeJ σ' ∧ Fr (fun i => 22 ≤ i ∧ i ≤ 25) σ σ') := by
  obtain ⟨bw, am, sz, rd, jd, fd, en, t, B, Wi, Wo, Ho, hSe, ht, hB⟩ := hJ
  have hn7 := h.2.2.2.2.2.1
  have g0 := h.1
  have e0 := hSe.1
  obtain ⟨hpc, h128⟩ := all_bit n hn7
  refine Cn.intro (lv0 := [some (.ref 0), some (.ref p)]) rfl (Nat.le_of_ble_eq_true rfl) rfl (fun d hd => ?_)
  refine x_aload_n dX7_lawfulTables_0 rfl ?_
  refine x_get (v := .ref 22) f_X7_32 k0 rfl dX7_lawfulTables_1 ?_
  refine x_aload_n dX7_lawfulTables_4 rfl ?_
  refine x_aload_n dX7_lawfulTables_5 rfl ?_
  refine x_callV m_X2_everybody l_X7_121 (c_everybody h) rfl g0 (by omega) rfl rfl (Nat.le_of_ble_eq_true rfl) ⟨Nat.le_refl _, Nat.le_refl _⟩ dX7_lawfulTables_6 (fun r1 s1 q1 => ?_)
  obtain ⟨rfl, eq1⟩ := q1
  obtain rfl := eq1.symm
  refine x_stk (st' := [.int (nI ((2 ^ n - 1))), .ref p, .ref 22]) rfl ?_
  refine x_iconst (v := (-1)) dX7_lawfulTables_9 (by decide) ?_
  refine x_callV m_X5_invite l_X7_192 (c_invite hSe h hr1 hp h128 (A := (2 ^ n - 1)) (e := (-1))) rfl e0 (by omega) rfl rfl (Nat.le_of_ble_eq_true rfl) ⟨Nat.le_refl _, Nat.le_refl _⟩ dX7_lawfulTables_10 (fun r2 s2 q2 => ?_)
  obtain ⟨rfl, S2, F2⟩ := q2
  refine x_stk (st' := []) rfl ?_
  refine x_aload_n dX7_lawfulTables_13 rfl ?_
  refine x_get (v := .ref 22) f_X7_32 (F2.at (by omega) k0) rfl dX7_lawfulTables_14 ?_
  refine x_ldc (v := (2147483647)) c_X7_216 dX7_lawfulTables_17 ?_
  refine x_topi (y := nI 2147483647) (by decide) ?_
  refine x_callV m_X5_countUpTo l_X7_217 (c_cnt (n := n) S2 ht (wlS_ok hn7) hB h128 (fun q hq => all_in hq) (mo := (nI 2147483647)) (by decide)) rfl S2.1 (by omega) rfl rfl (Nat.le_of_ble_eq_true rfl) ⟨Nat.le_refl _, Nat.le_refl _⟩ dX7_lawfulTables_19 (fun r3 s3 q3 => ?_)
  obtain ⟨rfl, J3, F3⟩ := q3
  refine x_stk (st' := [.int (nI ((min ((nI 2147483647)).toInt.toNat (lwf (decide (rr = 1)) (2 ^ n - 1) (wlS K N D n (2 ^ n - 1) (-1))).length)))]) rfl ?_
  exact x_iret ⟨Nat.le_refl _, Nat.le_refl _⟩ rfl dX7_lawfulTables_22 ⟨by rw [min_all h128], J3, ((Fr.rf.tr (F2.mono (fun i hi => by omega))).tr (F3.mono (fun i hi => by omega)))⟩
set_option maxHeartbeats 4000000 in
theorem c_anyTable {σ : ZS} {tx ik : Int32} (k0 : zg σ 0 = some (.inr (.inr (6, [.ref 1, .ref 6, .ref 11, .ref 16, .ref 22, .ref 28, .ref 31, .int tx, .int ik])))) {p : Nat} (hp : p = 1 ∨ p = 11) {rr n : Nat} {di ru : Int32} {K N : List Nat} {W : List Int32} {D : List Nat} (h : Pa σ p (nI rr) di ru n K N W D) (hr1 : rr ≤ 1) (hJ : SeJ σ) {A : Nat} (hA : A < 128) (hb : ∀ q, A.testBit q = true → q < n) {e : Int32} : Cn 12 M_X7_isAnyTable 0 0 [.ref 0, .ref p, .int (nI A), .int e] σ (fun r9 σ' => r9 = some (.int (bI (decide (0 < (lwf (decide (rr = 1)) A (wlS K N D n A e)).length)))) ∧ SeJ σ' ∧ Fr (fun i => 22 ≤ i ∧ i ≤ 25) σ σ') := by
  obtain ⟨bw, am, sz, rd, jd, fd, en, t, B, Wi, Wo, Ho, hSe, ht, hB⟩ := hJ
  have hn7 := h.2.2.2.2.2.1
  have g0 := h.1
  have e0 := hSe.1
  obtain ⟨hpc, h128⟩ := all_bit n hn7
  refine Cn.intro (lv0 := [some (.ref 0), some (.ref p), some (.int (nI A)), some (.int e)]) rfl (Nat.le_of_ble_eq_true rfl) rfl (fun d hd => ?_)
  refine x_aload_n dX7_isAnyTable_0 rfl ?_
  refine x_get (v := .ref 22) f_X7_32 k0 rfl dX7_isAnyTable_1 ?_
  refine x_aload_n dX7_isAnyTable_4 rfl ?_
  refine x_iload_n dX7_isAnyTable_5 rfl ?_
  refine x_iload_n dX7_isAnyTable_6 rfl ?_
  refine x_callV m_X5_invite l_X7_192 (c_invite hSe h hr1 hp hA (A := A) (e := e)) rfl e0 (by omega) rfl rfl (Nat.le_of_ble_eq_true rfl) ⟨Nat.le_refl _, Nat.le_refl _⟩ dX7_isAnyTable_7 (fun r1 s1 q1 => ?_)
  obtain ⟨rfl, S1, F1⟩ := q1
  refine x_stk (st' := []) rfl ?_
  refine x_aload_n dX7_isAnyTable_10 rfl ?_
  refine x_get (v := .ref 22) f_X7_32 (F1.at (by omega) k0) rfl dX7_isAnyTable_11 ?_
  refine x_iconst (v := nI 1) dX7_isAnyTable_14 (by decide) ?_
  refine x_callV m_X5_countUpTo l_X7_217 (c_cnt (n := n) S1 ht (wlS_ok hn7) hB hA hb (mo := (nI 1)) (by decide)) rfl S1.1 (by omega) rfl rfl (Nat.le_of_ble_eq_true rfl) ⟨Nat.le_refl _, Nat.le_refl _⟩ dX7_isAnyTable_15 (fun r2 s2 q2 => ?_)
  obtain ⟨rfl, J2, F2⟩ := q2
  refine x_stk (st' := [.int (nI ((min ((nI 1)).toInt.toNat (lwf (decide (rr = 1)) A (wlS K N D n A e)).length)))]) rfl ?_
  have hmn := min_le1 (x := (lwf (decide (rr = 1)) A (wlS K N D n A e)).length)
  refine x_ifN_le (tgt := 25) dX7_isAnyTable_18 (by decide) (by omega) (fun hv3 => ?_) (fun hv3 => ?_)
  · refine x_iconst (v := nI 0) dX7_isAnyTable_25 (by decide) ?_
    exact x_zret ⟨Nat.le_refl _, Nat.le_refl _⟩ rfl (by decide) dX7_isAnyTable_26 ⟨by rw [show decide (0 < (lwf (decide (rr = 1)) A (wlS K N D n A e)).length) = false from decide_eq_false (fun q => by have := min_one.mpr q; omega)]; rfl, J2, ((Fr.rf.tr (F1.mono (fun i hi => by omega))).tr (F2.mono (fun i hi => by omega)))⟩
  · refine x_iconst (v := nI 1) dX7_isAnyTable_21 (by decide) ?_
    refine x_goto (tgt := 26) dX7_isAnyTable_22 (by decide) ?_
    exact x_zret ⟨Nat.le_refl _, Nat.le_refl _⟩ rfl (by decide) dX7_isAnyTable_26 ⟨by rw [show decide (0 < (lwf (decide (rr = 1)) A (wlS K N D n A e)).length) = true from decide_eq_true (min_one.mp (by omega))]; rfl, J2, ((Fr.rf.tr (F1.mono (fun i hi => by omega))).tr (F2.mono (fun i hi => by omega)))⟩
set_option maxHeartbeats 4000000 in
theorem c_gladdest {σ : ZS} {tx ik : Int32} (k0 : zg σ 0 = some (.inr (.inr (6, [.ref 1, .ref 6, .ref 11, .ref 16, .ref 22, .ref 28, .ref 31, .int tx, .int ik])))) {p : Nat} (hp : p = 1 ∨ p = 11) {rr n : Nat} {di : Int32} {ru : Nat} {K N : List Nat} {W : List Int32} {D : List Nat} (h : Pa σ p (nI rr) di (nI ru) n K N W D) (hr1 : rr ≤ 1) {ri si ki : Nat} {S : List Nat} {lf jf : Nat} (hM : MaW σ ru ri si ki S lf jf) (hJ : SeJ σ) : Cn 12 M_X7_isGladdest 0 0 [.ref 0, .ref p] σ (fun r9 σ' => r9 = some (.int (bI (bstB (totB (vW false S lf jf K N W D n) (decide (rr = 1)) n) (lwf (decide (rr = 1)) (2 ^ n - 1) (wlS K N D n (2 ^ n - 1) (-1)))).isSome)) ∧ SeF σ' (2 ^ n - 1) n (decide (rr = 1)) (wlS K N D n (2 ^ n - 1) (-1)) (vW false S lf jf K N W D n) (bstB (totB (vW false S lf jf K N W D n) (decide (rr = 1)) n) (lwf (decide (rr = 1)) (2 ^ n - 1) (wlS K N D n (2 ^ n - 1) (-1)))) ∧ Pa σ' p (nI rr) di (nI ru) n K N W D ∧ MaW σ' ru ri si ki S lf jf ∧ Fr (fun i => i = 18 ∨ i = ki ∨ i = p + 4 ∨ (22 ≤ i ∧ i ≤ 27)) σ σ') := by
  obtain ⟨bw, am, sz, rd, jd, fd, en, t, B, Wi, Wo, Ho, hSe, ht, hB⟩ := hJ
  have hn7 := h.2.2.2.2.2.1
  have g0 := h.1
  have e0 := hSe.1
  obtain ⟨hpc, h128⟩ := all_bit n hn7
  have m0 := hM.1
  have hloc := hM.2.2.2.2.2.1
  refine Cn.intro (lv0 := [some (.ref 0), some (.ref p)]) rfl (Nat.le_of_ble_eq_true rfl) rfl (fun d hd => ?_)
  refine x_aload_n dX7_isGladdest_0 rfl ?_
  refine x_get (v := .ref 22) f_X7_32 k0 rfl dX7_isGladdest_1 ?_
  refine x_aload_n dX7_isGladdest_4 rfl ?_
  refine x_aload_n dX7_isGladdest_5 rfl ?_
  refine x_callV m_X2_everybody l_X7_121 (c_everybody h) rfl g0 (by omega) rfl rfl (Nat.le_of_ble_eq_true rfl) ⟨Nat.le_refl _, Nat.le_refl _⟩ dX7_isGladdest_6 (fun r1 s1 q1 => ?_)
  obtain ⟨rfl, eq1⟩ := q1
  obtain rfl := eq1.symm
  refine x_stk (st' := [.int (nI ((2 ^ n - 1))), .ref p, .ref 22]) rfl ?_
  refine x_iconst (v := (-1)) dX7_isGladdest_9 (by decide) ?_
  refine x_callV m_X5_invite l_X7_192 (c_invite hSe h hr1 hp h128 (A := (2 ^ n - 1)) (e := (-1))) rfl e0 (by omega) rfl rfl (Nat.le_of_ble_eq_true rfl) ⟨Nat.le_refl _, Nat.le_refl _⟩ dX7_isGladdest_10 (fun r2 s2 q2 => ?_)
  obtain ⟨rfl, S2, F2⟩ := q2
  refine x_stk (st' := []) rfl ?_
  refine x_aload_n dX7_isGladdest_13 rfl ?_
  refine x_get (v := .ref 22) f_X7_32 (F2.at (by omega) k0) rfl dX7_isGladdest_14 ?_
  refine x_aload_n dX7_isGladdest_17 rfl ?_
  refine x_get (v := .ref 16) f_X7_25 (F2.at (by omega) k0) rfl dX7_isGladdest_18 ?_
  refine x_aload_n dX7_isGladdest_21 rfl ?_
  refine x_iconst (v := nI 0) dX7_isGladdest_22 (by decide) ?_
  refine x_topi (y := bI false) (by decide) ?_
  refine x_callV m_X5_weigh l_X7_220 (c_weigh (cl := false) hp (by rw [hpc]; exact hn7) ht (wlS_ok hn7) S2 ((h).fr F2 (by omega)) ((hM).fr F2 (by omega))) rfl S2.1 (by omega) rfl rfl (Nat.le_of_ble_eq_true rfl) ⟨Nat.le_refl _, Nat.le_refl _⟩ dX7_isGladdest_23 (fun r3 s3 q3 => ?_)
  obtain ⟨rfl, Wo3, Ho3, S3, P3, M3, F3, WK3, HK3, H03⟩ := q3
  have Wg3 : Wgh (vW false S lf jf K N W D (popc (2 ^ n - 1))) n (decide (rr = 1)) (popc (2 ^ n - 1)) Wo3 Ho3 := Wgh.mk (by rw [hpc]; exact hn7) (fun q => by have := prS_2 q; rw [hpc] at this; exact this) (fun s a b _ _ _ _ => vW_b ⟨h.2.2.2.2.2.2.2.2.2.1, h.2.2.2.2.2.2.2.2.2.2.2.2⟩ h.2.2.2.2.2.2.2.2.2.2.2.1) WK3 HK3 H03
  refine x_stk (st' := []) rfl ?_
  refine x_aload_n dX7_isGladdest_26 rfl ?_
  refine x_get (v := .ref 22) f_X7_32 (F3.at (by omega) (F2.at (by omega) k0)) rfl dX7_isGladdest_27 ?_
  refine x_callV m_X5_findBest l_X7_224 (c_fnd (n := n) S3 ht (wlS_ok hn7) hB h128 (fun q hq => all_in hq) Wg3) rfl S3.1 (by omega) rfl rfl (Nat.le_of_ble_eq_true rfl) ⟨Nat.le_refl _, Nat.le_refl _⟩ dX7_isGladdest_30 (fun r4 s4 q4 => ?_)
  rw [hpc] at q4
  obtain ⟨rfl, Q4, F4⟩ := q4
  refine x_stk (st' := [.int (bI ((bstB (totB (vW false S lf jf K N W D n) (decide (rr = 1)) n) (lwf (decide (rr = 1)) (2 ^ n - 1) (wlS K N D n (2 ^ n - 1) (-1)))).isSome))]) rfl ?_
  exact x_zret ⟨Nat.le_refl _, Nat.le_refl _⟩ rfl (bI_nar _) dX7_isGladdest_33 ⟨rfl, Q4, P3.fr F4 (by omega), M3.fr F4 (by omega), (((Fr.rf.tr (F2.mono (fun i hi => by omega))).tr (F3.mono (fun i hi => by omega))).tr (F4.mono (fun i hi => by omega)))⟩
