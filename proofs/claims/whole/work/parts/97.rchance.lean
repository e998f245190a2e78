/-! chances, texts -/
theorem l_add1 : ∀ h, h < 30 → (nI h).toInt64 + 1 = (nI (h + 1)).toInt64 := by decide +kernel
theorem l_add0 : ∀ h, h < 30 → (nI h).toInt64 + 0 = (nI h).toInt64 := by decide +kernel
theorem l_rem : ∀ a, a < 21 → ∀ b, b < 21 → 0 < b → (nI a).toInt64 - (nI a).toInt64 / (nI b).toInt64 * (nI b).toInt64 = (nI (a % b)).toInt64 := by decide +kernel
theorem l_div : ∀ a, a < 21 → ∀ b, b < 21 → 0 < b → (nI a).toInt64 / (nI b).toInt64 = (nI (a / b)).toInt64 := by decide +kernel
theorem l_ne : ∀ b, b < 21 → 0 < b → ¬ (nI b).toInt64 = 0 := by decide +kernel
def havS (rr n : Nat) (K N D : List Nat) (sd : Int32) : Nat → Nat
  | 0 => 0
  | k + 1 => havS rr n K N D sd k + (if 0 < (lwf (decide (rr = 1)) (2 ^ n - 1) (wlS K N (drOut n n (sd + nI k, D)).2 n (2 ^ n - 1) (-1))).length then 1 else 0)
theorem havS_le {rr n : Nat} {K N D : List Nat} {sd : Int32} : ∀ {k : Nat}, havS rr n K N D sd k ≤ k
  | 0 => Nat.le_refl _
  | k + 1 => by
    have := havS_le (rr := rr) (n := n) (K := K) (N := N) (D := D) (sd := sd) (k := k)
    rw [havS]
    split <;> omega
def chaV (h cnt : Nat) (pt : Int) : Int64 := (nI ((if pt = 0 then h else cnt) / Nat.gcd h cnt)).toInt64
set_option maxHeartbeats 4000000 in
theorem lr_gcd {Q : Option Value → ZS → Prop} {σ : ZS} {sd pt : Int32} {cnt h G : Nat} {d : Nat} (hout : ∀ p, p = G → X M_X8_chance d 0 0 Q 0 0 98 [some (.ref 1000), some (.int sd), some (.int (nI cnt)), some (.int pt), some (.long (((nI h).toInt64))), none, some (.long (((nI p).toInt64))), none, some (.long (((nI 0).toInt64))), none, none, none] [] σ) : ∀ (m p q : Nat), q ≤ m → p < 21 → q < 21 → Nat.gcd p q = G → X M_X8_chance d 0 0 Q 0 0 73 [some (.ref 1000), some (.int sd), some (.int (nI cnt)), some (.int pt), some (.long (((nI h).toInt64))), none, some (.long (((nI p).toInt64))), none, some (.long (((nI q).toInt64))), none, none, none] [] σ := by
  intro m
  induction m with
  | zero =>
    intro p q hq hp21 hq21 hG
    obtain rfl : q = 0 := by omega
    have h0 : (0 : Int64).toInt = 0 := by decide
    have hq9 : (nI 0).toInt64.toInt = ((0 : Nat) : Int) := tL (nI_toInt (by omega))
    refine x_lload dX8_chance_73 rfl ?_
    refine x_lconst (v := 0) dX8_chance_75 (by decide) ?_
    refine x_lcmp dX8_chance_76 ?_
    refine x_topi (y := nI 0) (lcmp_eq (by rw [hq9, h0]; rfl)) ?_
    refine x_ifN_eq (tgt := 98) dX8_chance_77 (by decide) (by omega) (fun hv1 => ?_) (fun hv1 => ?_)
    · exact hout p (by rw [← hG, Nat.gcd_zero_right])
    · exact absurd hv1 (by decide)
  | succ m ih =>
    intro p q hq hp21 hq21 hG
    have h0 : (0 : Int64).toInt = 0 := by decide
    have hq9 : (nI q).toInt64.toInt = ((q : Nat) : Int) := tL (nI_toInt (by omega))
    refine x_lload dX8_chance_73 rfl ?_
    refine x_lconst (v := 0) dX8_chance_75 (by decide) ?_
    refine x_lcmp dX8_chance_76 ?_
    rcases (show q = 0 ∨ 0 < q by omega) with hc | hc
    · refine x_topi (y := nI 0) (lcmp_eq (by rw [hq9, h0, hc]; rfl)) ?_
      refine x_ifN_eq (tgt := 98) dX8_chance_77 (by decide) (by omega) (fun hv1 => ?_) (fun hv1 => ?_)
      · subst hc
        exact hout p (by rw [← hG, Nat.gcd_zero_right])
      · exact absurd hv1 (by decide)
    · refine x_topi (y := nI 1) (lcmp_gt (by rw [hq9, h0]; omega)) ?_
      refine x_ifN_eq (tgt := 98) dX8_chance_77 (by decide) (by omega) (fun hv2 => ?_) (fun hv2 => ?_)
      · exact absurd hv2 (by decide)
      · refine x_lload dX8_chance_80 rfl ?_
        refine x_lload dX8_chance_82 rfl ?_
        refine x_lrem dX8_chance_84 (l_ne _ (by omega) (by omega)) ?_
        refine x_stk (st' := [.long (((nI (p % q)).toInt64))]) (by rw [l_rem p (by omega) q (by omega) (by omega)]) ?_
        refine x_lstore dX8_chance_85 (by decide) rfl ?_
        refine x_lv (lv' := [some (.ref 1000), some (.int sd), some (.int (nI cnt)), some (.int pt), some (.long (((nI h).toInt64))), none, some (.long (((nI p).toInt64))), none, some (.long (((nI q).toInt64))), none, some (.long (((nI (p % q)).toInt64))), none]) rfl ?_
        refine x_lload dX8_chance_87 rfl ?_
        refine x_lstore dX8_chance_89 (by decide) rfl ?_
        refine x_lv (lv' := [some (.ref 1000), some (.int sd), some (.int (nI cnt)), some (.int pt), some (.long (((nI h).toInt64))), none, some (.long (((nI q).toInt64))), none, some (.long (((nI q).toInt64))), none, some (.long (((nI (p % q)).toInt64))), none]) rfl ?_
        refine x_lload dX8_chance_91 rfl ?_
        refine x_lstore dX8_chance_93 (by decide) rfl ?_
        refine x_lv (lv' := [some (.ref 1000), some (.int sd), some (.int (nI cnt)), some (.int pt), some (.long (((nI h).toInt64))), none, some (.long (((nI q).toInt64))), none, some (.long (((nI (p % q)).toInt64))), none, some (.long (((nI (p % q)).toInt64))), none]) rfl ?_
        refine x_goto (tgt := 73) dX8_chance_95 (by decide) ?_
        refine x_drop 10 ?_
        exact ih q (p % q) (by have := Nat.mod_lt p (show 0 < q by omega); omega) (by omega) (by have := Nat.mod_lt p (show 0 < q by omega); omega) (by rw [← hG, Nat.gcd_comm q, ← Nat.gcd_rec, Nat.gcd_comm])
theorem lw_bd {r : Bool} {n : Nat} {wl : List (Option Nat)} (hn : n ≤ 7) : (lwf r (2 ^ n - 1) wl).length ≤ 823543 := Nat.le_trans (List.length_filter_le _ _) (tbs_len (all_bit n hn).2)
theorem RC.fr9b {a a' : Nat → Int32} {b b' : Nat → List Int32} {rr n : Nat} {K N : List Nat} {W : List Int32} {D : List Nat} {f9 : Int32} (h : RC a b rr n K N W D f9) (hA : FrR a a') (hB : ∀ j, j ≠ 7 → j ≠ 8 → j ≠ 9 → b' j = b j) : RC a' b' rr n K N W D f9 := by
  obtain ⟨c7, hrr, c13, hn7, c14, cK, cN, cW, cD, r⟩ := h
  exact ⟨(hA 7 (by omega)).trans c7, hrr, (hA 13 (by omega)).trans c13, hn7, (hA 14 (by omega)).trans c14, fun i hi => by rw [hB 3 (by decide) (by decide) (by decide)]; exact cK i hi, by rw [hB 4 (by decide) (by decide) (by decide)]; exact cN, by rw [hB 5 (by decide) (by decide) (by decide)]; exact cW, by rw [hB 6 (by decide) (by decide) (by decide)]; exact cD, r⟩
theorem RT.frb {a a' : Nat → Int32} {b b' : Nat → List Int32} {ru : Nat} {L S : List Nat} {lf jf : Nat} (h : RT a b ru L S lf jf) (hA : FrR a a') (hB : ∀ j, j ≠ 7 → j ≠ 8 → j ≠ 9 → b' j = b j) : RT a' b' ru L S lf jf := by
  have h2 := h.setB (hB 0 (by decide) (by decide) (by decide)) (hB 1 (by decide) (by decide) (by decide))
  exact ⟨(hA 4 (by omega)).trans h2.1, h2.2⟩
set_option maxHeartbeats 4000000 in
theorem lr_chance {Q : Option Value → ZS → Prop} {σ0 : ZS} {a0 : Nat → Int32} {b0 : Nat → List Int32} {rr n : Nat} {K N : List Nat} {W : List Int32} {D : List Nat} {ru : Nat} {L S : List Nat} {lf jf : Nat} (hg : Dg D) {sd pt : Int32} {cnt : Nat} (hc20 : cnt ≤ 20) {d : Nat} (hd : 182 ≤ d) (hout : ∀ (a : Nat → Int32) (tw : Int64) (b : Nat → List Int32) (σ : ZS), RM σ0 σ a tw b → FrR a0 a → (∀ j, j ≠ 7 → j ≠ 8 → j ≠ 9 → b j = b0 j) → X M_X8_chance d 0 0 Q 0 0 65 [some (.ref 1000), some (.int sd), some (.int (nI cnt)), some (.int pt), some (.long (((nI ((havS rr n K N D sd cnt))).toInt64))), none, some (.int (nI cnt)), none, none, none, none, none] [] σ) : ∀ (q k : Nat) (a : Nat → Int32) (tw : Int64) (b : Nat → List Int32) (σ : ZS) (hR : RM σ0 σ a tw b) (hW : BW a b rr n K N W D (-1) ru L S lf jf) (hA : FrR a0 a) (hB : ∀ j, j ≠ 7 → j ≠ 8 → j ≠ 9 → b j = b0 j), k + q = cnt → X M_X8_chance d 0 0 (Q) 0 0 32 [some (.ref 1000), some (.int sd), some (.int (nI cnt)), some (.int pt), some (.long (((nI ((havS rr n K N D sd k))).toInt64))), none, some (.int (nI k)), none, none, none, none, none] [] σ := by
  intro q
  induction q with
  | zero =>
    intro k a tw b σ hR hW hA hB hk
    obtain ⟨hC, hT⟩ := id hW
    obtain ⟨c7, hrr, c13, hn7, c14, cK, cN, cW, cD, hN7, hW7, hD49, hK5, hN9, hD999⟩ := id hC
    refine x_iload dX8_chance_32 rfl ?_
    refine x_iload_n dX8_chance_34 rfl ?_
    refine x_icmpN_ge (tgt := 65) dX8_chance_35 (by decide) (by omega) (by omega) (fun hv1 => ?_) (fun hv1 => ?_)
    · obtain rfl : cnt = k := by omega
      exact hout a tw b σ hR hA hB
    · exact absurd hv1 (by omega)
  | succ q ih =>
    intro k a tw b σ hR hW hA hB hk
    obtain ⟨hC, hT⟩ := id hW
    obtain ⟨c7, hrr, c13, hn7, c14, cK, cN, cW, cD, hN7, hW7, hD49, hK5, hN9, hD999⟩ := id hC
    refine x_iload dX8_chance_32 rfl ?_
    refine x_iload_n dX8_chance_34 rfl ?_
    refine x_icmpN_ge (tgt := 65) dX8_chance_35 (by decide) (by omega) (by omega) (fun hv1 => ?_) (fun hv1 => ?_)
    · exact absurd hv1 (by omega)
    · refine x_lload dX8_chance_38 rfl ?_
      refine x_aload_n dX8_chance_40 rfl ?_
      refine x_iload_n dX8_chance_41 rfl ?_
      refine x_iload dX8_chance_42 rfl ?_
      refine x_iadd dX8_chance_44 ?_
      refine x_callV m_X8_lawfulBy l_X8_391 (r_lawfulBy hR hW hg (sd := sd + nI k)) rfl hR.2.1 (by omega) rfl rfl (Nat.le_of_ble_eq_true rfl) ⟨Nat.le_refl _, Nat.le_refl _⟩ dX8_chance_45 (fun r2 s2 q2 => ?_)
      obtain ⟨a2, tw2, b2, rfl, R2, A2, B2⟩ := q2
      have hlb2 := lw_bd (r := (decide (rr = 1))) (wl := wlS K N (drOut n n (sd + nI k, D)).2 n (2 ^ n - 1) (-1)) (n := n) hn7
      refine x_stk (st' := [.int (nI (((lwf (decide (rr = 1)) (2 ^ n - 1) (wlS K N (drOut n n (sd + nI k, D)).2 n (2 ^ n - 1) (-1))).length))), .long (((nI ((havS rr n K N D sd k))).toInt64))]) rfl ?_
      refine x_ifN_le (tgt := 55) dX8_chance_48 (by decide) (by omega) (fun hv3 => ?_) (fun hv3 => ?_)
      · refine x_lconst (v := 0) dX8_chance_55 (by decide) ?_
        refine x_ladd dX8_chance_56 ?_
        have hvl := havS_le (rr := rr) (n := n) (K := K) (N := N) (D := D) (sd := sd) (k := k)
        refine x_stk (st' := [.long (((nI (((havS rr n K N D sd k) + 0))).toInt64))]) (by rw [l_add0 _ (by omega)]; rfl) ?_
        refine x_lstore dX8_chance_57 (by decide) rfl ?_
        refine x_lv (lv' := [some (.ref 1000), some (.int sd), some (.int (nI cnt)), some (.int pt), some (.long (((nI (((havS rr n K N D sd k) + 0))).toInt64))), none, some (.int (nI k)), none, none, none, none, none]) rfl ?_
        refine x_iincN dX8_chance_59 rfl (by decide) rfl ?_
        refine x_lv (lv' := [some (.ref 1000), some (.int sd), some (.int (nI cnt)), some (.int pt), some (.long (((nI (((havS rr n K N D sd k) + 0))).toInt64))), none, some (.int (nI (k + 1))), none, none, none, none, none]) rfl ?_
        refine x_goto (tgt := 32) dX8_chance_62 (by decide) ?_
        refine x_lv (lv' := [some (.ref 1000), some (.int sd), some (.int (nI cnt)), some (.int pt), some (.long (((nI ((havS rr n K N D sd (k + 1)))).toInt64))), none, some (.int (nI ((k + 1)))), none, none, none, none, none]) (by rw [havS, if_neg (by rw [hv3]; decide)]) ?_
        exact ih (k + 1) _ _ _ s2 R2 ⟨(hW.1.fr9b A2 B2), (hW.2.frb A2 B2)⟩ (hA.tr A2) (fun j h7 h8 h9 => (B2 j h7 h8 h9).trans (hB j h7 h8 h9)) (by omega)
      · refine x_lconst (v := 1) dX8_chance_51 (by decide) ?_
        refine x_goto (tgt := 56) dX8_chance_52 (by decide) ?_
        refine x_ladd dX8_chance_56 ?_
        have hvl := havS_le (rr := rr) (n := n) (K := K) (N := N) (D := D) (sd := sd) (k := k)
        refine x_stk (st' := [.long (((nI (((havS rr n K N D sd k) + 1))).toInt64))]) (by rw [l_add1 _ (by omega)]) ?_
        refine x_lstore dX8_chance_57 (by decide) rfl ?_
        refine x_lv (lv' := [some (.ref 1000), some (.int sd), some (.int (nI cnt)), some (.int pt), some (.long (((nI (((havS rr n K N D sd k) + 1))).toInt64))), none, some (.int (nI k)), none, none, none, none, none]) rfl ?_
        refine x_iincN dX8_chance_59 rfl (by decide) rfl ?_
        refine x_lv (lv' := [some (.ref 1000), some (.int sd), some (.int (nI cnt)), some (.int pt), some (.long (((nI (((havS rr n K N D sd k) + 1))).toInt64))), none, some (.int (nI (k + 1))), none, none, none, none, none]) rfl ?_
        refine x_goto (tgt := 32) dX8_chance_62 (by decide) ?_
        refine x_lv (lv' := [some (.ref 1000), some (.int sd), some (.int (nI cnt)), some (.int pt), some (.long (((nI ((havS rr n K N D sd (k + 1)))).toInt64))), none, some (.int (nI ((k + 1)))), none, none, none, none, none]) (by rw [havS, if_pos hv3]) ?_
        exact ih (k + 1) _ _ _ s2 R2 ⟨(hW.1.fr9b A2 B2), (hW.2.frb A2 B2)⟩ (hA.tr A2) (fun j h7 h8 h9 => (B2 j h7 h8 h9).trans (hB j h7 h8 h9)) (by omega)
set_option maxHeartbeats 4000000 in
theorem r_chance {σ0 σ : ZS} {a : Nat → Int32} {tw : Int64} {b : Nat → List Int32} {rr n : Nat} {K N : List Nat} {W : List Int32} {D : List Nat} {ru : Nat} {L S : List Nat} {lf jf : Nat} (hR : RM σ0 σ a tw b) (hW : BW a b rr n K N W D (-1) ru L S lf jf) (hg : Dg D) {sd pt : Int32} {cnt : Nat} (hc1 : 0 < cnt) (hc20 : cnt ≤ 20) (hpt : 0 ≤ pt.toInt ∧ pt.toInt ≤ 1) : Cn 182 M_X8_chance 0 0 [.ref 1000, .int sd, .int (nI cnt), .int pt] σ (fun r9 σ' => r9 = some (.long (chaV (havS rr n K N D sd cnt) cnt pt.toInt)) ∧ ∃ (a' : Nat → Int32) (tw' : Int64) (b' : Nat → List Int32), RM σ0 σ' a' tw' b' ∧ FrR a a' ∧ (∀ j, j ≠ 7 → j ≠ 8 → j ≠ 9 → b' j = b j)) := by
  obtain ⟨hC, hT⟩ := id hW
  obtain ⟨c7, hrr, c13, hn7, c14, cK, cN, cW, cD, hN7, hW7, hD49, hK5, hN9, hD999⟩ := id hC
  refine Cn.intro (lv0 := [some (.ref 1000), some (.int sd), some (.int (nI cnt)), some (.int pt), none, none, none, none, none, none, none, none]) rfl (Nat.le_of_ble_eq_true rfl) rfl (fun d hd => ?_)
  refine x_iload_n dX8_chance_0 rfl ?_
  refine x_i2l dX8_chance_1 ?_
  refine x_lconst (v := 1) dX8_chance_2 (by decide) ?_
  refine x_ldc2 (v := (20)) cl_X8_366 dX8_chance_3 ?_
  refine x_callS m_X8_in l_X8_85 (r_in (p := ((cnt : Nat) : Int)) (q := 1) (r := (20)) (tL (nI_toInt (by omega))) (by decide) (by decide)) (by omega) rfl rfl (Nat.le_of_ble_eq_true rfl) ⟨Nat.le_refl _, Nat.le_refl _⟩ dX8_chance_6 (fun r1 s1 q1 => ?_)
  obtain ⟨rfl, eq1⟩ := q1
  obtain rfl := eq1.symm
  refine x_stk (st' := [.int (bI (decide (1 ≤ ((cnt : Nat) : Int) ∧ ((cnt : Nat) : Int) ≤ (20))))]) rfl ?_
  refine x_ifP_eq (P := 1 ≤ ((cnt : Nat) : Int) ∧ ((cnt : Nat) : Int) ≤ (20)) inferInstance (tgt := 22) dX8_chance_9 (by decide) (fun hv2 => ?_) (fun hv2 => ?_)
  · exact absurd (by omega) hv2
  · refine x_iload_n dX8_chance_12 rfl ?_
    refine x_i2l dX8_chance_13 ?_
    refine x_lconst (v := 0) dX8_chance_14 (by decide) ?_
    refine x_lconst (v := 1) dX8_chance_15 (by decide) ?_
    refine x_callS m_X8_in l_X8_85 (r_in (p := pt.toInt) (q := 0) (r := 1) (tL rfl) (by decide) (by decide)) (by omega) rfl rfl (Nat.le_of_ble_eq_true rfl) ⟨Nat.le_refl _, Nat.le_refl _⟩ dX8_chance_16 (fun r3 s3 q3 => ?_)
    obtain ⟨rfl, eq3⟩ := q3
    obtain rfl := eq3.symm
    refine x_stk (st' := [.int (bI (decide (0 ≤ pt.toInt ∧ pt.toInt ≤ 1)))]) rfl ?_
    refine x_ifP_ne (P := 0 ≤ pt.toInt ∧ pt.toInt ≤ 1) inferInstance (tgt := 26) dX8_chance_19 (by decide) (fun hv4 => ?_) (fun hv4 => ?_)
    · refine x_lconst (v := 0) dX8_chance_26 (by decide) ?_
      refine x_lstore dX8_chance_27 (by decide) rfl ?_
      refine x_lv (lv' := [some (.ref 1000), some (.int sd), some (.int (nI cnt)), some (.int pt), some (.long 0), none, none, none, none, none, none, none]) rfl ?_
      refine x_iconst (v := nI 0) dX8_chance_29 (by decide) ?_
      refine x_istore dX8_chance_30 (by decide) rfl ?_
      refine x_lv (lv' := [some (.ref 1000), some (.int sd), some (.int (nI cnt)), some (.int pt), some (.long 0), none, some (.int (nI 0)), none, none, none, none, none]) rfl ?_
      refine x_lv (lv' := [some (.ref 1000), some (.int sd), some (.int (nI cnt)), some (.int pt), some (.long (((nI ((havS rr n K N D sd 0))).toInt64))), none, some (.int (nI 0)), none, none, none, none, none]) rfl ?_
      have hvl := havS_le (rr := rr) (n := n) (K := K) (N := N) (D := D) (sd := sd) (k := cnt)
      refine lr_chance hg hc20 (Nat.le_trans (by decide) hd) ?_ cnt 0 a tw b σ hR hW FrR.rf (fun _ _ _ _ => rfl) (by omega)
      intro a2 tw2 b2 σ2 R2 A2 B2
      refine x_lload dX8_chance_65 rfl ?_
      refine x_lstore dX8_chance_67 (by decide) rfl ?_
      refine x_lv (lv' := [some (.ref 1000), some (.int sd), some (.int (nI cnt)), some (.int pt), some (.long (((nI ((havS rr n K N D sd cnt))).toInt64))), none, some (.long (((nI ((havS rr n K N D sd cnt))).toInt64))), none, none, none, none, none]) rfl ?_
      refine x_iload_n dX8_chance_69 rfl ?_
      refine x_i2l dX8_chance_70 ?_
      refine x_lstore dX8_chance_71 (by decide) rfl ?_
      refine x_lv (lv' := [some (.ref 1000), some (.int sd), some (.int (nI cnt)), some (.int pt), some (.long (((nI ((havS rr n K N D sd cnt))).toInt64))), none, some (.long (((nI ((havS rr n K N D sd cnt))).toInt64))), none, some (.long ((nI cnt).toInt64)), none, none, none]) rfl ?_
      generalize hh9 : (havS rr n K N D sd cnt) = h9 at hvl ⊢
      have hgp : 0 < Nat.gcd h9 cnt := Nat.gcd_pos_of_pos_right _ hc1
      have hgl : Nat.gcd h9 cnt ≤ cnt := Nat.gcd_le_right _ hc1
      refine lr_gcd (G := Nat.gcd h9 cnt) ?_ cnt h9 cnt (Nat.le_refl _) (by omega) (by omega) rfl
      intro p9 hp9
      have hp0 : 0 < p9 := by omega
      refine x_iload_n dX8_chance_98 rfl ?_
      refine x_ifT_ne (p := pt.toInt) (tgt := 110) rfl dX8_chance_99 (by decide) (fun hv121 => ?_) (fun hv121 => ?_)
      · refine x_iload_n dX8_chance_110 rfl ?_
        refine x_i2l dX8_chance_111 ?_
        refine x_lload dX8_chance_112 rfl ?_
        refine x_ldiv dX8_chance_114 (l_ne _ (by omega) hp0) ?_
        refine x_stk (st' := [.long (((nI (cnt / p9)).toInt64))]) (by rw [l_div _ (by omega) _ (by omega) hp0]) ?_
        exact x_lret ⟨Nat.le_refl _, Nat.le_refl _⟩ rfl dX8_chance_115 ⟨by rw [chaV, if_neg (by omega), ← hp9], _, _, _, R2, A2, B2⟩
      · refine x_lload dX8_chance_102 rfl ?_
        refine x_lload dX8_chance_104 rfl ?_
        refine x_ldiv dX8_chance_106 (l_ne _ (by omega) hp0) ?_
        refine x_stk (st' := [.long (((nI (h9 / p9)).toInt64))]) (by rw [l_div _ (by omega) _ (by omega) hp0]) ?_
        refine x_goto (tgt := 115) dX8_chance_107 (by decide) ?_
        exact x_lret ⟨Nat.le_refl _, Nat.le_refl _⟩ rfl dX8_chance_115 ⟨by rw [chaV, if_pos (by omega), ← hp9], _, _, _, R2, A2, B2⟩
    · exact absurd hpt hv4
set_option maxHeartbeats 4000000 in
theorem r_chance_b {σ0 σ : ZS} {a : Nat → Int32} {tw : Int64} {b : Nat → List Int32} {rr n : Nat} {K N : List Nat} {W : List Int32} {D : List Nat} {ru : Nat} {L S : List Nat} {lf jf : Nat} (hR : RM σ0 σ a tw b) (hW : BW a b rr n K N W D (-1) ru L S lf jf) {sd c pt : Int32} (hb : ¬ (1 ≤ c.toInt ∧ c.toInt ≤ 20) ∨ ¬ (0 ≤ pt.toInt ∧ pt.toInt ≤ 1)) : Cn 3 M_X8_chance 0 0 [.ref 1000, .int sd, .int c, .int pt] σ (fun r9 σ' => r9 = some (.long (-4611686018427387904)) ∧ σ' = σ) := by
  obtain ⟨hC, hT⟩ := id hW
  obtain ⟨c7, hrr, c13, hn7, c14, cK, cN, cW, cD, hN7, hW7, hD49, hK5, hN9, hD999⟩ := id hC
  refine Cn.intro (lv0 := [some (.ref 1000), some (.int sd), some (.int c), some (.int pt), none, none, none, none, none, none, none, none]) rfl (Nat.le_of_ble_eq_true rfl) rfl (fun d hd => ?_)
  refine x_iload_n dX8_chance_0 rfl ?_
  refine x_i2l dX8_chance_1 ?_
  refine x_lconst (v := 1) dX8_chance_2 (by decide) ?_
  refine x_ldc2 (v := (20)) cl_X8_366 dX8_chance_3 ?_
  refine x_callS m_X8_in l_X8_85 (r_in (p := c.toInt) (q := 1) (r := (20)) (tL rfl) (by decide) (by decide)) (by omega) rfl rfl (Nat.le_of_ble_eq_true rfl) ⟨Nat.le_refl _, Nat.le_refl _⟩ dX8_chance_6 (fun r1 s1 q1 => ?_)
  obtain ⟨rfl, eq1⟩ := q1
  obtain rfl := eq1.symm
  refine x_stk (st' := [.int (bI (decide (1 ≤ c.toInt ∧ c.toInt ≤ (20))))]) rfl ?_
  refine x_ifP_eq (P := 1 ≤ c.toInt ∧ c.toInt ≤ (20)) inferInstance (tgt := 22) dX8_chance_9 (by decide) (fun hv2 => ?_) (fun hv2 => ?_)
  · refine x_ldc2 (v := (-4611686018427387904)) cl_X8_394 dX8_chance_22 ?_
    exact x_lret ⟨Nat.le_refl _, Nat.le_refl _⟩ rfl dX8_chance_25 ⟨rfl, rfl⟩
  · refine x_iload_n dX8_chance_12 rfl ?_
    refine x_i2l dX8_chance_13 ?_
    refine x_lconst (v := 0) dX8_chance_14 (by decide) ?_
    refine x_lconst (v := 1) dX8_chance_15 (by decide) ?_
    refine x_callS m_X8_in l_X8_85 (r_in (p := pt.toInt) (q := 0) (r := 1) (tL rfl) (by decide) (by decide)) (by omega) rfl rfl (Nat.le_of_ble_eq_true rfl) ⟨Nat.le_refl _, Nat.le_refl _⟩ dX8_chance_16 (fun r3 s3 q3 => ?_)
    obtain ⟨rfl, eq3⟩ := q3
    obtain rfl := eq3.symm
    refine x_stk (st' := [.int (bI (decide (0 ≤ pt.toInt ∧ pt.toInt ≤ 1)))]) rfl ?_
    refine x_ifP_ne (P := 0 ≤ pt.toInt ∧ pt.toInt ≤ 1) inferInstance (tgt := 26) dX8_chance_19 (by decide) (fun hv4 => ?_) (fun hv4 => ?_)
    · exfalso; omega
    · refine x_ldc2 (v := (-4611686018427387904)) cl_X8_394 dX8_chance_22 ?_
      exact x_lret ⟨Nat.le_refl _, Nat.le_refl _⟩ rfl dX8_chance_25 ⟨rfl, rfl⟩
