/-! the class: film -/
theorem flR_len {n : Nat} {y : List Nat} : (flR n y).length = 40 := by simp [flR]
theorem flR_set {k : Nat} {y : List Nat} (hk : k < 40) : (flR k y).set k (nI (y.getD k 0)) = flR (k + 1) y := by
  refine Cp.all (k := 40) (fun i hi => ?_) (by rw [List.length_set, flR_len]) flR_len
  rw [gset (by rw [flR_len]; exact hk), flR_get hi, flR_get hi]
  by_cases e : i = k
  · rw [if_pos e, if_pos (by omega), e]
  · rw [if_neg e]
    by_cases c : i < k
    · rw [if_pos c, if_pos (by omega)]
    · rw [if_neg c, if_neg (by omega)]
theorem flR_0 {y : List Nat} : flR 0 y = List.replicate 40 0 := by
  refine List.ext_getElem? (fun i => ?_)
  rw [flR, List.getElem?_map, List.getElem?_replicate]
  by_cases hi : i < 40
  · rw [List.getElem?_range hi, if_pos hi]; rfl
  · rw [List.getElem?_eq_none (by simp; omega), if_neg hi]; rfl
theorem putV_7 : ∀ k, k < 7 → putV (nI 0) (nI k) = nI k := by decide +kernel
set_option maxHeartbeats 4000000 in
theorem l_film {σ0 : ZS} {tx ik : Int32} {rr n i : Nat} (hi4 : i < 4) (hn7 : n ≤ 7) {bw jd fd en : Int32} {t B y : List Nat} {wl : List (Option Nat)} {Wo Ho : List Int32} (hB : T7 B) (hE : EqM n B y) {Q : Option Value → ZS → Prop} (hQ : ∀ σ', zg σ' (32 + 2 * i) = some (.inr (.inr (5, [.int (nI 0), .int (nI n), .ref (33 + 2 * i)]))) → zg σ' (33 + 2 * i) = some (.inl (0, flR n y)) → Fr (fun q => q = 32 + 2 * i ∨ q = 33 + 2 * i) σ0 σ' → Q (some (.int (nI n))) σ') {d : Nat} (hd : 1 ≤ d) : ∀ (q k : Nat) (σ : ZS) (k0 : zg σ 0 = some (.inr (.inr (6, [.ref 1, .ref 6, .ref 11, .ref 16, .ref 22, .ref 28, .ref 31, .int tx, .int ik])))) (hSe : Se σ bw (nI (2 ^ n - 1)) (nI n) (bI (decide (rr = 1))) jd fd en (t.map nI) (wl.map oI) (B.map nI) Wo Ho) (g31 : zg σ 31 = some (.inr (.inl (3, [some 32, some 34, some 36, some 38])))) (s0 : zg σ (32 + 2 * i) = some (.inr (.inr (5, [.int (nI 0), .int (nI n), .ref (33 + 2 * i)])))) (s1 : zg σ (33 + 2 * i) = some (.inl (0, flR k y))) (hF : Fr (fun q => q = 32 + 2 * i ∨ q = 33 + 2 * i) σ0 σ), k + q = n → X M_X7_film d 0 0 (Q) 0 0 46 [some (.ref 0), some (.int (nI i)), some (.int (nI n)), some (.int (nI k))] [] σ := by
  intro q
  induction q with
  | zero =>
    intro k σ k0 hSe g31 s0 s1 hF hk
    refine x_iload_n dX7_film_46 rfl ?_
    refine x_iload_n dX7_film_47 rfl ?_
    refine x_icmpN_ge (tgt := 76) dX7_film_48 (by decide) (by omega) (by omega) (fun hv1 => ?_) (fun hv1 => ?_)
    · refine x_iload_n dX7_film_76 rfl ?_
      exact x_iret ⟨Nat.le_refl _, Nat.le_refl _⟩ rfl dX7_film_77 (hQ _ s0 ((show k = n by omega) ▸ s1) hF)
    · exact absurd hv1 (by omega)
  | succ q ih =>
    intro k σ k0 hSe g31 s0 s1 hF hk
    refine x_iload_n dX7_film_46 rfl ?_
    refine x_iload_n dX7_film_47 rfl ?_
    refine x_icmpN_ge (tgt := 76) dX7_film_48 (by decide) (by omega) (by omega) (fun hv1 => ?_) (fun hv1 => ?_)
    · exact absurd hv1 (by omega)
    · refine x_aload_n dX7_film_51 rfl ?_
      refine x_get (v := .ref 31) f_X7_45 k0 rfl dX7_film_52 ?_
      refine x_iload_n dX7_film_55 rfl ?_
      refine x_aald (Or.inr rfl) g31 rfl (sh_aa hi4) dX7_film_56 ?_
      refine x_iload_n dX7_film_57 rfl ?_
      refine x_aload_n dX7_film_58 rfl ?_
      refine x_get (v := .ref 22) f_X7_32 k0 rfl dX7_film_59 ?_
      refine x_get (v := .ref 25) f_X7_276 hSe.1 rfl dX7_film_62 ?_
      refine x_iload_n dX7_film_65 rfl ?_
      refine x_iald (n := k) hSe.2.2.2.1 rfl (by rw [List.length_map, hB.1]; omega) dX7_film_66 ?_
      refine x_topi (y := nI ((B.getD k 0))) gm_getD ?_
      refine x_callV m_X6_put l_X7_279 (c_put (j := k) (v := nI (B.getD k 0)) s0 s1 flR_len (by omega) (by omega) (by omega)) rfl s0 (by omega) rfl rfl (Nat.le_of_ble_eq_true rfl) ⟨Nat.le_refl _, Nat.le_refl _⟩ dX7_film_67 (fun r2 s2 q2 => ?_)
      obtain ⟨rfl, z2, F2⟩ := q2
      rw [putV_7 _ (hB.2 k), hE k (by omega), flR_set (by omega)] at z2
      refine x_stk (st' := []) rfl ?_
      refine x_iincN dX7_film_70 rfl (by decide) rfl ?_
      refine x_lv (lv' := [some (.ref 0), some (.int (nI i)), some (.int (nI n)), some (.int (nI (k + 1)))]) rfl ?_
      refine x_goto (tgt := 46) dX7_film_73 (by decide) ?_
      exact ih (k + 1) s2 (F2.at (by omega) k0) (hSe.fr F2 (by omega)) (F2.at (by omega) g31) (F2.at (by omega) s0) z2 (hF.tr (Fr.rf.tr (F2.mono (fun i hi => by omega)))) (by omega)
set_option maxHeartbeats 4000000 in
theorem c_film {σ : ZS} {tx ik : Int32} (k0 : zg σ 0 = some (.inr (.inr (6, [.ref 1, .ref 6, .ref 11, .ref 16, .ref 22, .ref 28, .ref 31, .int tx, .int ik])))) {rr dn ru n : Nat} {K N : List Nat} {W : List Int32} {D : List Nat} (h : Pa σ 1 (nI rr) (nI dn) (nI ru) n K N W D) (hr1 : rr ≤ 1) {ri si ki : Nat} {S : List Nat} {lf jf : Nat} (hM : MaW σ ru ri si ki S lf jf) (hJ : SeJ σ) {sh : Nat → SH} (hS : CSH σ sh) (hG : SHG sh) {i : Nat} (hi4 : i < 4) : Cn 14 M_X7_film 0 0 [.ref 0, .int (nI i)] σ (fun r9 σ' => r9 = some (.int (nI (match (bstB (totB (vW false S lf jf K N W D n) (decide (rr = 1)) n) (lwf (decide (rr = 1)) (2 ^ n - 1) (wlS K N D n (2 ^ n - 1) (-1)))) with | none => (0, up sh i (nI 0, 0, List.replicate 40 0)) | some y => (n, up sh i (nI 0, n, flR n y))).1)) ∧ CSH σ' (match (bstB (totB (vW false S lf jf K N W D n) (decide (rr = 1)) n) (lwf (decide (rr = 1)) (2 ^ n - 1) (wlS K N D n (2 ^ n - 1) (-1)))) with | none => (0, up sh i (nI 0, 0, List.replicate 40 0)) | some y => (n, up sh i (nI 0, n, flR n y))).2 ∧ Pa σ' 1 (nI rr) (nI dn) (nI ru) n K N W D ∧ MaW σ' ru ri si ki S lf jf ∧ SeJ σ' ∧ Fr (fun q => q = 18 ∨ q = ki ∨ q = 5 ∨ (22 ≤ q ∧ q ≤ 27) ∨ q = 32 + 2 * i ∨ q = 33 + 2 * i) σ σ') := by
  obtain ⟨g31, hS2⟩ := id hS
  obtain ⟨s0, s1⟩ := hS2 i hi4
  obtain ⟨hso9, hz40, hl40⟩ := hG i hi4
  have hn7 := h.2.2.2.2.2.1
  have hloc := hM.2.2.2.2.2.1
  refine Cn.intro (lv0 := [some (.ref 0), some (.int (nI i)), none, none]) rfl (Nat.le_of_ble_eq_true rfl) rfl (fun d hd => ?_)
  refine x_iload_n dX7_film_0 rfl ?_
  refine x_callS m_X7_isSheet l_X7_153 (c_isSheetP (p := ((i : Nat) : Int)) (nI_toInt (by omega))) (by omega) rfl rfl (Nat.le_of_ble_eq_true rfl) ⟨Nat.le_refl _, Nat.le_refl _⟩ dX7_film_1 (fun r1 s1 q1 => ?_)
  obtain ⟨rfl, eq1⟩ := q1
  obtain rfl := eq1.symm
  refine x_stk (st' := [.int (bI (decide (0 ≤ ((i : Nat) : Int) ∧ ((i : Nat) : Int) ≤ 3)))]) rfl ?_
  refine x_ifP_ne (P := 0 ≤ ((i : Nat) : Int) ∧ ((i : Nat) : Int) ≤ 3) inferInstance (tgt := 10) dX7_film_4 (by decide) (fun hv2 => ?_) (fun hv2 => ?_)
  · refine x_aload_n dX7_film_10 rfl ?_
    refine x_aload_n dX7_film_11 rfl ?_
    refine x_get (v := .ref 1) f_X7_10 k0 rfl dX7_film_12 ?_
    refine x_callV m_X7_isGladdest l_X7_200 (c_gladdest k0 (Or.inl rfl) h hr1 hM hJ) rfl k0 (by omega) rfl rfl (Nat.le_of_ble_eq_true rfl) ⟨Nat.le_refl _, Nat.le_refl _⟩ dX7_film_15 (fun r3 s3 q3 => ?_)
    obtain ⟨rfl, Q3, P3, M3, F3⟩ := q3
    obtain ⟨bw3, jd3, fd3, en3, tt3, BB3, Wo3, Ho3, Sx3, T13, T23, bh3⟩ := id Q3
    refine x_stk (st' := [.int (bI ((bstB (totB (vW false S lf jf K N W D n) (decide (rr = 1)) n) (lwf (decide (rr = 1)) (2 ^ n - 1) (wlS K N D n (2 ^ n - 1) (-1)))).isSome))]) rfl ?_
    refine x_ifB_eq (tgt := 31) dX7_film_18 (by decide) (fun hv4 => ?_) (fun hv4 => ?_)
    · refine x_iconst (v := nI 0) dX7_film_31 (by decide) ?_
      refine x_istore_n dX7_film_32 (by decide) rfl ?_
      refine x_lv (lv' := [some (.ref 0), some (.int (nI i)), some (.int (nI 0)), none]) rfl ?_
      refine x_aload_n dX7_film_33 rfl ?_
      refine x_get (v := .ref 31) f_X7_45 (F3.at (by omega) k0) rfl dX7_film_34 ?_
      refine x_iload_n dX7_film_37 rfl ?_
      refine x_aald (Or.inr rfl) (F3.at (by omega) g31) rfl (sh_aa hi4) dX7_film_38 ?_
      refine x_iconst (v := nI 0) dX7_film_39 (by decide) ?_
      refine x_iload_n dX7_film_40 rfl ?_
      refine x_callV m_X6_become l_X7_273 (c_shBecome (F3.at (by omega) s0) (F3.at (by omega) s1) hl40 hz40 (by omega)) rfl (F3.at (by omega) s0) (by omega) rfl rfl (Nat.le_of_ble_eq_true rfl) ⟨Nat.le_refl _, Nat.le_refl _⟩ dX7_film_41 (fun r5 s5 q5 => ?_)
      obtain ⟨rfl, y5, z5, F5⟩ := q5
      refine x_stk (st' := []) rfl ?_
      refine x_iconst (v := nI 0) dX7_film_44 (by decide) ?_
      refine x_istore_n dX7_film_45 (by decide) rfl ?_
      refine x_lv (lv' := [some (.ref 0), some (.int (nI i)), some (.int (nI 0)), some (.int (nI 0))]) rfl ?_
      refine x_iload_n dX7_film_46 rfl ?_
      refine x_iload_n dX7_film_47 rfl ?_
      refine x_icmpN_ge (tgt := 76) dX7_film_48 (by decide) (by omega) (by omega) (fun hv6 => ?_) (fun hv6 => ?_)
      · refine x_iload_n dX7_film_76 rfl ?_
        exact x_iret ⟨Nat.le_refl _, Nat.le_refl _⟩ rfl dX7_film_77 (by
    rw [isn hv4]
    have hS9 : CSH s3 sh := hS.fr F3 (by omega)
    exact ⟨rfl, hS9.put hi4 F5 y5 z5, P3.fr F5 (by omega), M3.fr F5 (by omega), Q3.j.fr F5 (by omega), ((Fr.rf.tr (F3.mono (fun i hi => by omega))).tr (F5.mono (fun i hi => by omega)))⟩)
      · exact absurd hv6 (by decide)
    · refine x_aload_n dX7_film_21 rfl ?_
      refine x_get (v := .ref 22) f_X7_32 (F3.at (by omega) k0) rfl dX7_film_22 ?_
      refine x_get (v := .int (nI n)) f_X7_251 Sx3.1 rfl dX7_film_25 ?_
      refine x_goto (tgt := 32) dX7_film_28 (by decide) ?_
      refine x_istore_n dX7_film_32 (by decide) rfl ?_
      refine x_lv (lv' := [some (.ref 0), some (.int (nI i)), some (.int (nI n)), none]) rfl ?_
      refine x_aload_n dX7_film_33 rfl ?_
      refine x_get (v := .ref 31) f_X7_45 (F3.at (by omega) k0) rfl dX7_film_34 ?_
      refine x_iload_n dX7_film_37 rfl ?_
      refine x_aald (Or.inr rfl) (F3.at (by omega) g31) rfl (sh_aa hi4) dX7_film_38 ?_
      refine x_iconst (v := nI 0) dX7_film_39 (by decide) ?_
      refine x_iload_n dX7_film_40 rfl ?_
      refine x_callV m_X6_become l_X7_273 (c_shBecome (F3.at (by omega) s0) (F3.at (by omega) s1) hl40 hz40 (by omega)) rfl (F3.at (by omega) s0) (by omega) rfl rfl (Nat.le_of_ble_eq_true rfl) ⟨Nat.le_refl _, Nat.le_refl _⟩ dX7_film_41 (fun r7 s7 q7 => ?_)
      obtain ⟨rfl, y7, z7, F7⟩ := q7
      refine x_stk (st' := []) rfl ?_
      refine x_iconst (v := nI 0) dX7_film_44 (by decide) ?_
      refine x_istore_n dX7_film_45 (by decide) rfl ?_
      refine x_lv (lv' := [some (.ref 0), some (.int (nI i)), some (.int (nI n)), some (.int (nI 0))]) rfl ?_
      obtain ⟨y, hy⟩ := Option.isSome_iff_exists.mp hv4
      have zz := z7
      rw [← flR_0 (y := y)] at zz
      refine l_film (σ0 := s7) hi4 hn7 T23 (bh3 y hy).2 (fun σ' e2 e3 e4 => ?_) (by omega) n 0 s7 (F7.at (by omega) (F3.at (by omega) k0)) (Sx3.fr F7 (by omega)) (F7.at (by omega) (F3.at (by omega) g31)) y7 zz Fr.rf (by omega)
      rw [hy]
      have hS9 : CSH s3 sh := hS.fr F3 (by omega)
      exact ⟨rfl, hS9.put hi4 (F7.tr e4) e2 e3, ((P3.fr F7 (by omega)).fr e4 (by omega)), ((M3.fr F7 (by omega)).fr e4 (by omega)), ((Q3.j.fr F7 (by omega)).fr e4 (by omega)), ((Fr.rf.tr (F3.mono (fun i hi => by omega))).tr (F7.mono (fun i hi => by omega))).tr (e4.mono (fun i hi => by omega))⟩
  · exact absurd hv2 (by omega)
set_option maxHeartbeats 4000000 in
theorem c_film_b {σ : ZS} {tx ik : Int32} (k0 : zg σ 0 = some (.inr (.inr (6, [.ref 1, .ref 6, .ref 11, .ref 16, .ref 22, .ref 28, .ref 31, .int tx, .int ik])))) {x : Int32} (hb : ¬ (0 ≤ x.toInt ∧ x.toInt ≤ 3)) : Cn 14 M_X7_film 0 0 [.ref 0, .int x] σ (fun r9 σ' => r9 = some (.int (-2)) ∧ σ' = σ) := by
  refine Cn.intro (lv0 := [some (.ref 0), some (.int x), none, none]) rfl (Nat.le_of_ble_eq_true rfl) rfl (fun d hd => ?_)
  refine x_iload_n dX7_film_0 rfl ?_
  refine x_callS m_X7_isSheet l_X7_153 (c_isSheetP (p := (x).toInt) rfl) (by omega) rfl rfl (Nat.le_of_ble_eq_true rfl) ⟨Nat.le_refl _, Nat.le_refl _⟩ dX7_film_1 (fun r1 s1 q1 => ?_)
  obtain ⟨rfl, eq1⟩ := q1
  obtain rfl := eq1.symm
  refine x_stk (st' := [.int (bI (decide (0 ≤ (x).toInt ∧ (x).toInt ≤ 3)))]) rfl ?_
  refine x_ifP_ne (P := 0 ≤ (x).toInt ∧ (x).toInt ≤ 3) inferInstance (tgt := 10) dX7_film_4 (by decide) (fun hv2 => ?_) (fun hv2 => ?_)
  · exact absurd hv2 (by omega)
  · refine x_bipush (v := (-2)) dX7_film_7 (by decide) ?_
    exact x_iret ⟨Nat.le_refl _, Nat.le_refl _⟩ rfl dX7_film_9 ⟨rfl, rfl⟩
