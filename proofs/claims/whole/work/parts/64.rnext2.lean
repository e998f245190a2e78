theorem bm64 {x : Int} (h1 : -9223372036854775808 ≤ x) (h2 : x < 9223372036854775808) : x.bmod (2 ^ 64) = x := by
  rw [Int.bmod_def]
  omega
theorem tw_step {t : Int64} {v c : Nat} (ht : t.toInt = ((v : Nat) : Int)) (hv : v ≤ 9999) (hc : c ≤ 255) (h48 : 48 ≤ c) : (((10) * t) + (nI c).toInt64 - (48) : Int64).toInt = ((v * 10 + (c - 48) : Nat) : Int) := by
  rw [Int64.toInt_sub, Int64.toInt_add, Int64.toInt_mul, ht, tL (nI_toInt (show c < 2 ^ 31 by omega)), show (10 : Int64).toInt = 10 by decide, show (48 : Int64).toInt = 48 by decide]
  rw [bm64 (x := 10 * (v : Int)) (by omega) (by omega), bm64 (x := 10 * (v : Int) + (c : Int)) (by omega) (by omega), bm64 (by omega) (by omega)]
  omega
theorem numV_lt5 {L : List Nat} {q j : Nat} (hj : j ≤ 3) (h : ∀ i, i < j → isDg (L.getD (q + i) 0) = true) : numV L q j ≤ 999 := by
  have := numV_lt (L := L) (q := q) j h
  have h2 : 10 ^ j ≤ 10 ^ 3 := Nat.pow_le_pow_right (by decide) hj
  omega
set_option maxHeartbeats 4000000 in
theorem lr_digits {Q : Option Value → ZS → Prop} {σ0 : ZS} {a0 : Nat → Int32} {b : Nat → List Int32} {L : List Nat} {q : Nat} {c0 : Int32} {d : Nat} (hd : 1 ≤ d) (hout : ∀ (a : Nat → Int32) (tw : Int64) (σ : ZS), RM σ0 σ a tw b → RTx a b L → a 23 = nI (skip isDg L q) → FrH a0 a → (skip isDg L q - q ≤ 4 → tw.toInt = ((numV L q (skip isDg L q - q) : Nat) : Int)) → X M_X8_next d 0 0 Q 0 0 235 [some (.ref 1000), some (.int c0), some (.int (nI (skip isDg L q - q)))] [] σ) : ∀ (q9 j : Nat) (a : Nat → Int32) (tw : Int64) (σ : ZS) (hR : RM σ0 σ a tw b) (hx : RTx a b L) (c23 : a 23 = nI (q + j)) (hA : FrH a0 a) (htw : j ≤ 4 → tw.toInt = ((numV L q j : Nat) : Int)) (hdg : ∀ i, i < j → isDg (L.getD (q + i) 0) = true), q + j + q9 = L.length → skip isDg L q = skip isDg L (q + j) → q + j ≤ L.length → X M_X8_next d 0 0 (Q) 0 0 160 [some (.ref 1000), some (.int c0), some (.int (nI j))] [] σ := by
  intro q9
  induction q9 with
  | zero =>
    intro j a tw σ hR hx c23 hA htw hdg hpq hsk hk
    obtain ⟨f0, hx1, hx2, hx3, hx4, hx5, hx6⟩ := id hx
    refine x_aload_n dX8_next_160 rfl ?_
    refine x_aload_n dX8_next_161 rfl ?_
    refine x_rget (v := .int (nI (q + j))) f_X8_147 hR (rg c23) dX8_next_162 ?_
    refine x_callV m_X8_byteAt l_X8_150 (r_byteAt hR hx (by omega)) rfl hR.2.1 (by omega) rfl rfl (Nat.le_of_ble_eq_true rfl) ⟨Nat.le_refl _, Nat.le_refl _⟩ dX8_next_165 (fun r1 s1 q1 => ?_)
    obtain ⟨rfl, eq1⟩ := q1
    obtain rfl := eq1.symm
    refine x_stk (st' := [.int ((byI L (q + j)))]) rfl ?_
    by_cases hin : q + j < L.length
    · have hb9 := hx6 (q + j)
      refine x_topi (y := nI (L.getD (q + j) 0)) (by rw [byI, if_pos (by omega)]) ?_
      refine x_i2l dX8_next_168 ?_
      refine x_ldc2 (v := (48)) cl_X8_163 dX8_next_169 ?_
      refine x_ldc2 (v := (57)) cl_X8_165 dX8_next_172 ?_
      refine x_callS m_X8_in l_X8_85 (r_in (p := (((L.getD (q + j) 0) : Nat) : Int)) (q := (48)) (r := (57)) (tL (nI_toInt (by omega))) (by decide) (by decide)) (by omega) rfl rfl (Nat.le_of_ble_eq_true rfl) ⟨Nat.le_refl _, Nat.le_refl _⟩ dX8_next_175 (fun r2 s2 q2 => ?_)
      obtain ⟨rfl, eq2⟩ := q2
      obtain rfl := eq2.symm
      refine x_stk (st' := [.int (bI (decide ((48) ≤ (((L.getD (q + j) 0) : Nat) : Int) ∧ (((L.getD (q + j) 0) : Nat) : Int) ≤ (57))))]) rfl ?_
      refine x_ifP_eq (P := (48) ≤ (((L.getD (q + j) 0) : Nat) : Int) ∧ (((L.getD (q + j) 0) : Nat) : Int) ≤ (57)) inferInstance (tgt := 235) dX8_next_178 (by decide) (fun hv3 => ?_) (fun hv3 => ?_)
      · have es : skip isDg L q = q + j := by rw [hsk, skip_f (decide_eq_false (by omega))]
        have ej : skip isDg L q - q = j := by omega
        have := hout a tw σ hR hx (by rw [c23, es]) hA (by rw [ej]; exact htw)
        rw [ej] at this
        exact this
      · refine x_aload_n dX8_next_181 rfl ?_
        refine x_iload_n dX8_next_182 rfl ?_
        refine x_iconst (v := nI 4) dX8_next_183 (by decide) ?_
        refine x_icmpN_ge (tgt := 212) dX8_next_184 (by decide) (by omega) (by omega) (fun hv4 => ?_) (fun hv4 => ?_)
        · refine x_aload_n dX8_next_212 rfl ?_
          refine x_rget f_X8_167 hR rfl dX8_next_213 ?_
          refine x_rput a tw f_X8_167 hR (by decide) rfl (fun c => ⟨rfl, rfl⟩) dX8_next_216 (fun sw5 Rw5 => ?_)
          refine x_iincN dX8_next_219 rfl (by decide) rfl ?_
          refine x_lv (lv' := [some (.ref 1000), some (.int c0), some (.int (nI (j + 1)))]) rfl ?_
          refine x_aload_n dX8_next_222 rfl ?_
          refine x_dup dX8_next_223 rfl ?_
          refine x_rget (v := .int (nI (q + j))) f_X8_147 Rw5 (rg c23) dX8_next_224 ?_
          refine x_iconst (v := nI 1) dX8_next_227 (by decide) ?_
          refine x_iaddN dX8_next_228 ?_
          refine x_rput (up a 23 (nI ((q + j) + 1))) tw f_X8_147 Rw5 (by decide) rfl (fun c => ⟨rfl, rfl⟩) dX8_next_229 (fun sw6 Rw6 => ?_)
          refine x_goto (tgt := 160) dX8_next_232 (by decide) ?_
          exfalso
          omega
        · refine x_ldc2 (v := (10)) cl_X8_120 dX8_next_187 ?_
          refine x_aload_n dX8_next_190 rfl ?_
          refine x_rget f_X8_167 hR rfl dX8_next_191 ?_
          refine x_lmul dX8_next_194 ?_
          refine x_aload_n dX8_next_195 rfl ?_
          refine x_aload_n dX8_next_196 rfl ?_
          refine x_rget (v := .int (nI (q + j))) f_X8_147 hR (rg c23) dX8_next_197 ?_
          refine x_callV m_X8_byteAt l_X8_150 (r_byteAt hR hx (by omega)) rfl hR.2.1 (by omega) rfl rfl (Nat.le_of_ble_eq_true rfl) ⟨Nat.le_refl _, Nat.le_refl _⟩ dX8_next_200 (fun r7 s7 q7 => ?_)
          obtain ⟨rfl, eq7⟩ := q7
          obtain rfl := eq7.symm
          refine x_stk (st' := [.int ((byI L (q + j))), .long (((10) * tw)), .ref 1000]) rfl ?_
          refine x_topi (y := nI (L.getD (q + j) 0)) (by rw [byI, if_pos (by omega)]) ?_
          refine x_i2l dX8_next_203 ?_
          refine x_ladd dX8_next_204 ?_
          refine x_ldc2 (v := (48)) cl_X8_163 dX8_next_205 ?_
          refine x_lsub dX8_next_208 ?_
          refine x_goto (tgt := 216) dX8_next_209 (by decide) ?_
          refine x_rput a ((((10) * tw) + (nI ((L.getD (q + j) 0))).toInt64) - (48)) f_X8_167 hR (by decide) rfl (fun c => ⟨rfl, rfl⟩) dX8_next_216 (fun sw8 Rw8 => ?_)
          refine x_iincN dX8_next_219 rfl (by decide) rfl ?_
          refine x_lv (lv' := [some (.ref 1000), some (.int c0), some (.int (nI (j + 1)))]) rfl ?_
          refine x_aload_n dX8_next_222 rfl ?_
          refine x_dup dX8_next_223 rfl ?_
          refine x_rget (v := .int (nI (q + j))) f_X8_147 Rw8 (rg c23) dX8_next_224 ?_
          refine x_iconst (v := nI 1) dX8_next_227 (by decide) ?_
          refine x_iaddN dX8_next_228 ?_
          refine x_rput (up a 23 (nI ((q + j) + 1))) ((((10) * tw) + (nI ((L.getD (q + j) 0))).toInt64) - (48)) f_X8_147 Rw8 (by decide) rfl (fun c => ⟨rfl, rfl⟩) dX8_next_229 (fun sw9 Rw9 => ?_)
          refine x_goto (tgt := 160) dX8_next_232 (by decide) ?_
          exfalso
          omega
    · refine x_topi (y := -1) (by rw [byI, if_neg (by omega)]) ?_
      refine x_i2l dX8_next_168 ?_
      refine x_ldc2 (v := (48)) cl_X8_163 dX8_next_169 ?_
      refine x_ldc2 (v := (57)) cl_X8_165 dX8_next_172 ?_
      refine x_callS m_X8_in l_X8_85 (r_in (p := (-1)) (q := (48)) (r := (57)) (tL (by decide)) (by decide) (by decide)) (by omega) rfl rfl (Nat.le_of_ble_eq_true rfl) ⟨Nat.le_refl _, Nat.le_refl _⟩ dX8_next_175 (fun r10 s10 q10 => ?_)
      obtain ⟨rfl, eq10⟩ := q10
      obtain rfl := eq10.symm
      refine x_stk (st' := [.int (bI (decide ((48) ≤ (-1) ∧ (-1) ≤ (57))))]) rfl ?_
      refine x_ifP_eq (P := (48) ≤ (-1) ∧ (-1) ≤ (57)) inferInstance (tgt := 235) dX8_next_178 (by decide) (fun hv11 => ?_) (fun hv11 => ?_)
      · have es : skip isDg L q = q + j := by rw [hsk, skip_e (by omega)]
        have ej : skip isDg L q - q = j := by omega
        have := hout a tw σ hR hx (by rw [c23, es]) hA (by rw [ej]; exact htw)
        rw [ej] at this
        exact this
      · exact absurd hv11 (by omega)
  | succ q9 ih =>
    intro j a tw σ hR hx c23 hA htw hdg hpq hsk hk
    obtain ⟨f0, hx1, hx2, hx3, hx4, hx5, hx6⟩ := id hx
    refine x_aload_n dX8_next_160 rfl ?_
    refine x_aload_n dX8_next_161 rfl ?_
    refine x_rget (v := .int (nI (q + j))) f_X8_147 hR (rg c23) dX8_next_162 ?_
    refine x_callV m_X8_byteAt l_X8_150 (r_byteAt hR hx (by omega)) rfl hR.2.1 (by omega) rfl rfl (Nat.le_of_ble_eq_true rfl) ⟨Nat.le_refl _, Nat.le_refl _⟩ dX8_next_165 (fun r1 s1 q1 => ?_)
    obtain ⟨rfl, eq1⟩ := q1
    obtain rfl := eq1.symm
    refine x_stk (st' := [.int ((byI L (q + j)))]) rfl ?_
    by_cases hin : q + j < L.length
    · have hb9 := hx6 (q + j)
      refine x_topi (y := nI (L.getD (q + j) 0)) (by rw [byI, if_pos (by omega)]) ?_
      refine x_i2l dX8_next_168 ?_
      refine x_ldc2 (v := (48)) cl_X8_163 dX8_next_169 ?_
      refine x_ldc2 (v := (57)) cl_X8_165 dX8_next_172 ?_
      refine x_callS m_X8_in l_X8_85 (r_in (p := (((L.getD (q + j) 0) : Nat) : Int)) (q := (48)) (r := (57)) (tL (nI_toInt (by omega))) (by decide) (by decide)) (by omega) rfl rfl (Nat.le_of_ble_eq_true rfl) ⟨Nat.le_refl _, Nat.le_refl _⟩ dX8_next_175 (fun r2 s2 q2 => ?_)
      obtain ⟨rfl, eq2⟩ := q2
      obtain rfl := eq2.symm
      refine x_stk (st' := [.int (bI (decide ((48) ≤ (((L.getD (q + j) 0) : Nat) : Int) ∧ (((L.getD (q + j) 0) : Nat) : Int) ≤ (57))))]) rfl ?_
      refine x_ifP_eq (P := (48) ≤ (((L.getD (q + j) 0) : Nat) : Int) ∧ (((L.getD (q + j) 0) : Nat) : Int) ≤ (57)) inferInstance (tgt := 235) dX8_next_178 (by decide) (fun hv3 => ?_) (fun hv3 => ?_)
      · have es : skip isDg L q = q + j := by rw [hsk, skip_f (decide_eq_false (by omega))]
        have ej : skip isDg L q - q = j := by omega
        have := hout a tw σ hR hx (by rw [c23, es]) hA (by rw [ej]; exact htw)
        rw [ej] at this
        exact this
      · refine x_aload_n dX8_next_181 rfl ?_
        refine x_iload_n dX8_next_182 rfl ?_
        refine x_iconst (v := nI 4) dX8_next_183 (by decide) ?_
        refine x_icmpN_ge (tgt := 212) dX8_next_184 (by decide) (by omega) (by omega) (fun hv4 => ?_) (fun hv4 => ?_)
        · refine x_aload_n dX8_next_212 rfl ?_
          refine x_rget f_X8_167 hR rfl dX8_next_213 ?_
          refine x_rput a tw f_X8_167 hR (by decide) rfl (fun c => ⟨rfl, rfl⟩) dX8_next_216 (fun sw5 Rw5 => ?_)
          refine x_iincN dX8_next_219 rfl (by decide) rfl ?_
          refine x_lv (lv' := [some (.ref 1000), some (.int c0), some (.int (nI (j + 1)))]) rfl ?_
          refine x_aload_n dX8_next_222 rfl ?_
          refine x_dup dX8_next_223 rfl ?_
          refine x_rget (v := .int (nI (q + j))) f_X8_147 Rw5 (rg c23) dX8_next_224 ?_
          refine x_iconst (v := nI 1) dX8_next_227 (by decide) ?_
          refine x_iaddN dX8_next_228 ?_
          refine x_rput (up a 23 (nI ((q + j) + 1))) tw f_X8_147 Rw5 (by decide) rfl (fun c => ⟨rfl, rfl⟩) dX8_next_229 (fun sw6 Rw6 => ?_)
          refine x_goto (tgt := 160) dX8_next_232 (by decide) ?_
          exact ih (j + 1) _ _ sw6 Rw6 hx rfl hA.up (fun q9 => absurd q9 (by omega)) (fun i hi => by
            by_cases e9 : i = j
            · rw [e9]; exact decide_eq_true (by omega)
            · exact hdg i (by omega)) (by omega) (by rw [hsk, skip_t (by omega) (decide_eq_true (by omega))]; rfl) (by omega)
        · refine x_ldc2 (v := (10)) cl_X8_120 dX8_next_187 ?_
          refine x_aload_n dX8_next_190 rfl ?_
          refine x_rget f_X8_167 hR rfl dX8_next_191 ?_
          refine x_lmul dX8_next_194 ?_
          refine x_aload_n dX8_next_195 rfl ?_
          refine x_aload_n dX8_next_196 rfl ?_
          refine x_rget (v := .int (nI (q + j))) f_X8_147 hR (rg c23) dX8_next_197 ?_
          refine x_callV m_X8_byteAt l_X8_150 (r_byteAt hR hx (by omega)) rfl hR.2.1 (by omega) rfl rfl (Nat.le_of_ble_eq_true rfl) ⟨Nat.le_refl _, Nat.le_refl _⟩ dX8_next_200 (fun r7 s7 q7 => ?_)
          obtain ⟨rfl, eq7⟩ := q7
          obtain rfl := eq7.symm
          refine x_stk (st' := [.int ((byI L (q + j))), .long (((10) * tw)), .ref 1000]) rfl ?_
          refine x_topi (y := nI (L.getD (q + j) 0)) (by rw [byI, if_pos (by omega)]) ?_
          refine x_i2l dX8_next_203 ?_
          refine x_ladd dX8_next_204 ?_
          refine x_ldc2 (v := (48)) cl_X8_163 dX8_next_205 ?_
          refine x_lsub dX8_next_208 ?_
          refine x_goto (tgt := 216) dX8_next_209 (by decide) ?_
          refine x_rput a ((((10) * tw) + (nI ((L.getD (q + j) 0))).toInt64) - (48)) f_X8_167 hR (by decide) rfl (fun c => ⟨rfl, rfl⟩) dX8_next_216 (fun sw8 Rw8 => ?_)
          refine x_iincN dX8_next_219 rfl (by decide) rfl ?_
          refine x_lv (lv' := [some (.ref 1000), some (.int c0), some (.int (nI (j + 1)))]) rfl ?_
          refine x_aload_n dX8_next_222 rfl ?_
          refine x_dup dX8_next_223 rfl ?_
          refine x_rget (v := .int (nI (q + j))) f_X8_147 Rw8 (rg c23) dX8_next_224 ?_
          refine x_iconst (v := nI 1) dX8_next_227 (by decide) ?_
          refine x_iaddN dX8_next_228 ?_
          refine x_rput (up a 23 (nI ((q + j) + 1))) ((((10) * tw) + (nI ((L.getD (q + j) 0))).toInt64) - (48)) f_X8_147 Rw8 (by decide) rfl (fun c => ⟨rfl, rfl⟩) dX8_next_229 (fun sw9 Rw9 => ?_)
          refine x_goto (tgt := 160) dX8_next_232 (by decide) ?_
          exact ih (j + 1) _ _ sw9 Rw9 hx rfl hA.up (fun _ => by rw [numV]; exact tw_step (htw (by omega)) (by have := numV_lt5 (show j ≤ 3 by omega) hdg; omega) (hx6 _) (by omega)) (fun i hi => by
            by_cases e9 : i = j
            · rw [e9]; exact decide_eq_true (by omega)
            · exact hdg i (by omega)) (by omega) (by rw [hsk, skip_t (by omega) (decide_eq_true (by omega))]; rfl) (by omega)
    · refine x_topi (y := -1) (by rw [byI, if_neg (by omega)]) ?_
      refine x_i2l dX8_next_168 ?_
      refine x_ldc2 (v := (48)) cl_X8_163 dX8_next_169 ?_
      refine x_ldc2 (v := (57)) cl_X8_165 dX8_next_172 ?_
      refine x_callS m_X8_in l_X8_85 (r_in (p := (-1)) (q := (48)) (r := (57)) (tL (by decide)) (by decide) (by decide)) (by omega) rfl rfl (Nat.le_of_ble_eq_true rfl) ⟨Nat.le_refl _, Nat.le_refl _⟩ dX8_next_175 (fun r10 s10 q10 => ?_)
      obtain ⟨rfl, eq10⟩ := q10
      obtain rfl := eq10.symm
      refine x_stk (st' := [.int (bI (decide ((48) ≤ (-1) ∧ (-1) ≤ (57))))]) rfl ?_
      refine x_ifP_eq (P := (48) ≤ (-1) ∧ (-1) ≤ (57)) inferInstance (tgt := 235) dX8_next_178 (by decide) (fun hv11 => ?_) (fun hv11 => ?_)
      · have es : skip isDg L q = q + j := by rw [hsk, skip_e (by omega)]
        have ej : skip isDg L q - q = j := by omega
        have := hout a tw σ hR hx (by rw [c23, es]) hA (by rw [ej]; exact htw)
        rw [ej] at this
        exact this
      · exact absurd hv11 (by omega)
set_option maxHeartbeats 4000000 in
theorem r_next {σ0 σ : ZS} {a : Nat → Int32} {tw : Int64} {b : Nat → List Int32} {L : List Nat} {p : Nat} (hR : RM σ0 σ a tw b) (hx : RTx a b L) (c23 : a 23 = nI p) (hp : p ≤ L.length) : Cn 1 M_X8_next 0 0 [.ref 1000] σ (fun r9 σ' => r9 = none ∧ ∃ (a' : Nat → Int32) (tw' : Int64), RM σ0 σ' a' tw' b ∧ FrN a a' ∧ RTk a' tw' L p) := by
  refine Cn.intro (lv0 := [some (.ref 1000), none, none]) rfl (Nat.le_of_ble_eq_true rfl) rfl (fun d hd => ?_)
  refine lr_blank (p0 := p) (a0 := a) (by omega) (fun a1 σ1 hR1 hx c23 hA1 => ?_) (L.length - p) p a σ hR hx c23 FrH.rf (by omega) rfl hp
  obtain ⟨f0, hx1, hx2, hx3, hx4, hx5, hx6⟩ := id hx
  have hlp := lexP_b hp
  refine x_aload_n dX8_next_39 rfl ?_
  refine x_aload_n dX8_next_40 rfl ?_
  refine x_rget (v := .int (nI ((lexP L p)))) f_X8_147 hR1 (rg c23) dX8_next_41 ?_
  refine x_rput (up a1 25 (nI ((lexP L p)))) tw f_X8_153 hR1 (by decide) rfl (fun c => ⟨rfl, rfl⟩) dX8_next_44 (fun sw301 Rw301 => ?_)
  refine x_aload_n dX8_next_47 rfl ?_
  refine x_aload_n dX8_next_48 rfl ?_
  refine x_rget (v := .int (nI ((lexP L p)))) f_X8_147 Rw301 (rg c23) dX8_next_49 ?_
  refine x_callV m_X8_byteAt l_X8_150 (r_byteAt Rw301 hx (by omega)) rfl Rw301.2.1 (by omega) rfl rfl (Nat.le_of_ble_eq_true rfl) ⟨Nat.le_refl _, Nat.le_refl _⟩ dX8_next_52 (fun r302 s302 q302 => ?_)
  obtain ⟨rfl, eq302⟩ := q302
  obtain rfl := eq302.symm
  refine x_stk (st' := [.int ((byI L ((lexP L p))))]) rfl ?_
  by_cases hin : lexP L p < L.length
  · have hb9 := hx6 (lexP L p)
    refine x_topi (y := nI (L.getD (lexP L p) 0)) (by rw [byI, if_pos (by omega)]) ?_
    refine x_istore_n dX8_next_55 (by decide) rfl ?_
    refine x_lv (lv' := [some (.ref 1000), some (.int (nI ((L.getD (lexP L p) 0)))), none]) rfl ?_
    refine x_aload_n dX8_next_56 rfl ?_
    refine x_iconst (v := nI 4) dX8_next_57 (by decide) ?_
    refine x_rput (up (up a1 25 (nI ((lexP L p)))) 24 (nI 4)) tw f_X8_156 Rw301 (by decide) rfl (fun c => ⟨rfl, rfl⟩) dX8_next_58 (fun sw303 Rw303 => ?_)
    refine x_iload_n dX8_next_61 rfl ?_
    refine x_ifN_ge (tgt := 81) dX8_next_62 (by decide) (by omega) ?_
    refine x_iload_n dX8_next_81 rfl ?_
    refine x_i2l dX8_next_82 ?_
    refine x_ldc2 (v := (97)) cl_X8_159 dX8_next_83 ?_
    refine x_ldc2 (v := (122)) cl_X8_161 dX8_next_86 ?_
    refine x_callS m_X8_in l_X8_85 (r_in (p := (((L.getD (lexP L p) 0) : Nat) : Int)) (q := (97)) (r := (122)) (tL (nI_toInt (by omega))) (by decide) (by decide)) (by omega) rfl rfl (Nat.le_of_ble_eq_true rfl) ⟨Nat.le_refl _, Nat.le_refl _⟩ dX8_next_89 (fun r305 s305 q305 => ?_)
    obtain ⟨rfl, eq305⟩ := q305
    obtain rfl := eq305.symm
    refine x_stk (st' := [.int (bI (decide ((97) ≤ (((L.getD (lexP L p) 0) : Nat) : Int) ∧ (((L.getD (lexP L p) 0) : Nat) : Int) ≤ (122))))]) rfl ?_
    refine x_ifP_eq (P := (97) ≤ (((L.getD (lexP L p) 0) : Nat) : Int) ∧ (((L.getD (lexP L p) 0) : Nat) : Int) ≤ (122)) inferInstance (tgt := 134) dX8_next_92 (by decide) (fun hv306 => ?_) (fun hv306 => ?_)
    · refine x_iload_n dX8_next_134 rfl ?_
      refine x_i2l dX8_next_135 ?_
      refine x_ldc2 (v := (48)) cl_X8_163 dX8_next_136 ?_
      refine x_ldc2 (v := (57)) cl_X8_165 dX8_next_139 ?_
      refine x_callS m_X8_in l_X8_85 (r_in (p := (((L.getD (lexP L p) 0) : Nat) : Int)) (q := (48)) (r := (57)) (tL (nI_toInt (by omega))) (by decide) (by decide)) (by omega) rfl rfl (Nat.le_of_ble_eq_true rfl) ⟨Nat.le_refl _, Nat.le_refl _⟩ dX8_next_142 (fun r307 s307 q307 => ?_)
      obtain ⟨rfl, eq307⟩ := q307
      obtain rfl := eq307.symm
      refine x_stk (st' := [.int (bI (decide ((48) ≤ (((L.getD (lexP L p) 0) : Nat) : Int) ∧ (((L.getD (lexP L p) 0) : Nat) : Int) ≤ (57))))]) rfl ?_
      refine x_ifP_eq (P := (48) ≤ (((L.getD (lexP L p) 0) : Nat) : Int) ∧ (((L.getD (lexP L p) 0) : Nat) : Int) ≤ (57)) inferInstance (tgt := 252) dX8_next_145 (by decide) (fun hv308 => ?_) (fun hv308 => ?_)
      · refine x_iload_n dX8_next_252 rfl ?_
        refine x_bipush (v := nI 40) dX8_next_253 (by decide) ?_
        refine x_icmpN_eq (tgt := 300) dX8_next_255 (by decide) (by omega) (by omega) (fun hv309 => ?_) (fun hv309 => ?_)
        · refine x_aload_n dX8_next_300 rfl ?_
          refine x_iconst (v := nI 3) dX8_next_301 (by decide) ?_
          refine x_rput (up (up (up a1 25 (nI ((lexP L p)))) 24 (nI 4)) 24 (nI 3)) tw f_X8_156 Rw303 (by decide) rfl (fun c => ⟨rfl, rfl⟩) dX8_next_302 (fun sw310 Rw310 => ?_)
          refine x_aload_n dX8_next_305 rfl ?_
          refine x_iload_n dX8_next_306 rfl ?_
          refine x_i2l dX8_next_307 ?_
          refine x_rput (up (up (up a1 25 (nI ((lexP L p)))) 24 (nI 4)) 24 (nI 3)) (nI ((L.getD (lexP L p) 0))).toInt64 f_X8_167 Rw310 (by decide) rfl (fun c => ⟨rfl, rfl⟩) dX8_next_308 (fun sw311 Rw311 => ?_)
          refine x_aload_n dX8_next_311 rfl ?_
          refine x_dup dX8_next_312 rfl ?_
          refine x_rget (v := .int (nI ((lexP L p)))) f_X8_147 Rw311 (rg c23) dX8_next_313 ?_
          refine x_iconst (v := nI 1) dX8_next_316 (by decide) ?_
          refine x_iaddN dX8_next_317 ?_
          refine x_rput (up (up (up (up a1 25 (nI ((lexP L p)))) 24 (nI 4)) 24 (nI 3)) 23 (nI (((lexP L p)) + 1))) (nI ((L.getD (lexP L p) 0))).toInt64 f_X8_147 Rw311 (by decide) rfl (fun c => ⟨rfl, rfl⟩) dX8_next_318 (fun sw312 Rw312 => ?_)
          exact x_vret ⟨Nat.le_refl _, Nat.le_refl _⟩ rfl dX8_next_321 ⟨rfl, _, _, Rw312, ((((hA1.N.up (by omega)).up (by omega)).up (by omega)).up (by omega)), (show nI (lexP L p) = nI (lexP L p) from rfl), (show nI 3 = nI (rK L p) by rw [rK, if_neg (show ¬ L.length ≤ lexP L p by omega), if_neg (show ¬ isLt (L.getD (lexP L p) 0) = true from fun q => by have := of_decide_eq_true q; omega), if_neg (show ¬ isDg (L.getD (lexP L p) 0) = true from fun q => by have := of_decide_eq_true q; omega), if_pos (show isSg (L.getD (lexP L p) 0) = true from decide_eq_true (by omega))]), fun _ => (show nI (lexP L p + 1) = nI (tkN L p) by rw [tkN, if_neg (show ¬ L.length ≤ lexP L p by omega), if_neg (show ¬ isLt (L.getD (lexP L p) 0) = true from fun q => by have := of_decide_eq_true q; omega), if_neg (show ¬ isDg (L.getD (lexP L p) 0) = true from fun q => by have := of_decide_eq_true q; omega)]), (fun q => absurd q (by rw [rK, if_neg (show ¬ L.length ≤ lexP L p by omega), if_neg (show ¬ isLt (L.getD (lexP L p) 0) = true from fun q => by have := of_decide_eq_true q; omega), if_neg (show ¬ isDg (L.getD (lexP L p) 0) = true from fun q => by have := of_decide_eq_true q; omega), if_pos (show isSg (L.getD (lexP L p) 0) = true from decide_eq_true (by omega))]; decide)), (fun _ => tL (nI_toInt (by omega)))⟩
        · refine x_iload_n dX8_next_258 rfl ?_
          refine x_bipush (v := nI 41) dX8_next_259 (by decide) ?_
          refine x_icmpN_eq (tgt := 300) dX8_next_261 (by decide) (by omega) (by omega) (fun hv313 => ?_) (fun hv313 => ?_)
          · refine x_aload_n dX8_next_300 rfl ?_
            refine x_iconst (v := nI 3) dX8_next_301 (by decide) ?_
            refine x_rput (up (up (up a1 25 (nI ((lexP L p)))) 24 (nI 4)) 24 (nI 3)) tw f_X8_156 Rw303 (by decide) rfl (fun c => ⟨rfl, rfl⟩) dX8_next_302 (fun sw314 Rw314 => ?_)
            refine x_aload_n dX8_next_305 rfl ?_
            refine x_iload_n dX8_next_306 rfl ?_
            refine x_i2l dX8_next_307 ?_
            refine x_rput (up (up (up a1 25 (nI ((lexP L p)))) 24 (nI 4)) 24 (nI 3)) (nI ((L.getD (lexP L p) 0))).toInt64 f_X8_167 Rw314 (by decide) rfl (fun c => ⟨rfl, rfl⟩) dX8_next_308 (fun sw315 Rw315 => ?_)
            refine x_aload_n dX8_next_311 rfl ?_
            refine x_dup dX8_next_312 rfl ?_
            refine x_rget (v := .int (nI ((lexP L p)))) f_X8_147 Rw315 (rg c23) dX8_next_313 ?_
            refine x_iconst (v := nI 1) dX8_next_316 (by decide) ?_
            refine x_iaddN dX8_next_317 ?_
            refine x_rput (up (up (up (up a1 25 (nI ((lexP L p)))) 24 (nI 4)) 24 (nI 3)) 23 (nI (((lexP L p)) + 1))) (nI ((L.getD (lexP L p) 0))).toInt64 f_X8_147 Rw315 (by decide) rfl (fun c => ⟨rfl, rfl⟩) dX8_next_318 (fun sw316 Rw316 => ?_)
            exact x_vret ⟨Nat.le_refl _, Nat.le_refl _⟩ rfl dX8_next_321 ⟨rfl, _, _, Rw316, ((((hA1.N.up (by omega)).up (by omega)).up (by omega)).up (by omega)), (show nI (lexP L p) = nI (lexP L p) from rfl), (show nI 3 = nI (rK L p) by rw [rK, if_neg (show ¬ L.length ≤ lexP L p by omega), if_neg (show ¬ isLt (L.getD (lexP L p) 0) = true from fun q => by have := of_decide_eq_true q; omega), if_neg (show ¬ isDg (L.getD (lexP L p) 0) = true from fun q => by have := of_decide_eq_true q; omega), if_pos (show isSg (L.getD (lexP L p) 0) = true from decide_eq_true (by omega))]), fun _ => (show nI (lexP L p + 1) = nI (tkN L p) by rw [tkN, if_neg (show ¬ L.length ≤ lexP L p by omega), if_neg (show ¬ isLt (L.getD (lexP L p) 0) = true from fun q => by have := of_decide_eq_true q; omega), if_neg (show ¬ isDg (L.getD (lexP L p) 0) = true from fun q => by have := of_decide_eq_true q; omega)]), (fun q => absurd q (by rw [rK, if_neg (show ¬ L.length ≤ lexP L p by omega), if_neg (show ¬ isLt (L.getD (lexP L p) 0) = true from fun q => by have := of_decide_eq_true q; omega), if_neg (show ¬ isDg (L.getD (lexP L p) 0) = true from fun q => by have := of_decide_eq_true q; omega), if_pos (show isSg (L.getD (lexP L p) 0) = true from decide_eq_true (by omega))]; decide)), (fun _ => tL (nI_toInt (by omega)))⟩
          · refine x_iload_n dX8_next_264 rfl ?_
            refine x_bipush (v := nI 59) dX8_next_265 (by decide) ?_
            refine x_icmpN_eq (tgt := 300) dX8_next_267 (by decide) (by omega) (by omega) (fun hv317 => ?_) (fun hv317 => ?_)
            · refine x_aload_n dX8_next_300 rfl ?_
              refine x_iconst (v := nI 3) dX8_next_301 (by decide) ?_
              refine x_rput (up (up (up a1 25 (nI ((lexP L p)))) 24 (nI 4)) 24 (nI 3)) tw f_X8_156 Rw303 (by decide) rfl (fun c => ⟨rfl, rfl⟩) dX8_next_302 (fun sw318 Rw318 => ?_)
              refine x_aload_n dX8_next_305 rfl ?_
              refine x_iload_n dX8_next_306 rfl ?_
              refine x_i2l dX8_next_307 ?_
              refine x_rput (up (up (up a1 25 (nI ((lexP L p)))) 24 (nI 4)) 24 (nI 3)) (nI ((L.getD (lexP L p) 0))).toInt64 f_X8_167 Rw318 (by decide) rfl (fun c => ⟨rfl, rfl⟩) dX8_next_308 (fun sw319 Rw319 => ?_)
              refine x_aload_n dX8_next_311 rfl ?_
              refine x_dup dX8_next_312 rfl ?_
              refine x_rget (v := .int (nI ((lexP L p)))) f_X8_147 Rw319 (rg c23) dX8_next_313 ?_
              refine x_iconst (v := nI 1) dX8_next_316 (by decide) ?_
              refine x_iaddN dX8_next_317 ?_
              refine x_rput (up (up (up (up a1 25 (nI ((lexP L p)))) 24 (nI 4)) 24 (nI 3)) 23 (nI (((lexP L p)) + 1))) (nI ((L.getD (lexP L p) 0))).toInt64 f_X8_147 Rw319 (by decide) rfl (fun c => ⟨rfl, rfl⟩) dX8_next_318 (fun sw320 Rw320 => ?_)
              exact x_vret ⟨Nat.le_refl _, Nat.le_refl _⟩ rfl dX8_next_321 ⟨rfl, _, _, Rw320, ((((hA1.N.up (by omega)).up (by omega)).up (by omega)).up (by omega)), (show nI (lexP L p) = nI (lexP L p) from rfl), (show nI 3 = nI (rK L p) by rw [rK, if_neg (show ¬ L.length ≤ lexP L p by omega), if_neg (show ¬ isLt (L.getD (lexP L p) 0) = true from fun q => by have := of_decide_eq_true q; omega), if_neg (show ¬ isDg (L.getD (lexP L p) 0) = true from fun q => by have := of_decide_eq_true q; omega), if_pos (show isSg (L.getD (lexP L p) 0) = true from decide_eq_true (by omega))]), fun _ => (show nI (lexP L p + 1) = nI (tkN L p) by rw [tkN, if_neg (show ¬ L.length ≤ lexP L p by omega), if_neg (show ¬ isLt (L.getD (lexP L p) 0) = true from fun q => by have := of_decide_eq_true q; omega), if_neg (show ¬ isDg (L.getD (lexP L p) 0) = true from fun q => by have := of_decide_eq_true q; omega)]), (fun q => absurd q (by rw [rK, if_neg (show ¬ L.length ≤ lexP L p by omega), if_neg (show ¬ isLt (L.getD (lexP L p) 0) = true from fun q => by have := of_decide_eq_true q; omega), if_neg (show ¬ isDg (L.getD (lexP L p) 0) = true from fun q => by have := of_decide_eq_true q; omega), if_pos (show isSg (L.getD (lexP L p) 0) = true from decide_eq_true (by omega))]; decide)), (fun _ => tL (nI_toInt (by omega)))⟩
            · refine x_iload_n dX8_next_270 rfl ?_
              refine x_bipush (v := nI 43) dX8_next_271 (by decide) ?_
              refine x_icmpN_eq (tgt := 300) dX8_next_273 (by decide) (by omega) (by omega) (fun hv321 => ?_) (fun hv321 => ?_)
              · refine x_aload_n dX8_next_300 rfl ?_
                refine x_iconst (v := nI 3) dX8_next_301 (by decide) ?_
                refine x_rput (up (up (up a1 25 (nI ((lexP L p)))) 24 (nI 4)) 24 (nI 3)) tw f_X8_156 Rw303 (by decide) rfl (fun c => ⟨rfl, rfl⟩) dX8_next_302 (fun sw322 Rw322 => ?_)
                refine x_aload_n dX8_next_305 rfl ?_
                refine x_iload_n dX8_next_306 rfl ?_
                refine x_i2l dX8_next_307 ?_
                refine x_rput (up (up (up a1 25 (nI ((lexP L p)))) 24 (nI 4)) 24 (nI 3)) (nI ((L.getD (lexP L p) 0))).toInt64 f_X8_167 Rw322 (by decide) rfl (fun c => ⟨rfl, rfl⟩) dX8_next_308 (fun sw323 Rw323 => ?_)
                refine x_aload_n dX8_next_311 rfl ?_
                refine x_dup dX8_next_312 rfl ?_
                refine x_rget (v := .int (nI ((lexP L p)))) f_X8_147 Rw323 (rg c23) dX8_next_313 ?_
                refine x_iconst (v := nI 1) dX8_next_316 (by decide) ?_
                refine x_iaddN dX8_next_317 ?_
                refine x_rput (up (up (up (up a1 25 (nI ((lexP L p)))) 24 (nI 4)) 24 (nI 3)) 23 (nI (((lexP L p)) + 1))) (nI ((L.getD (lexP L p) 0))).toInt64 f_X8_147 Rw323 (by decide) rfl (fun c => ⟨rfl, rfl⟩) dX8_next_318 (fun sw324 Rw324 => ?_)
                exact x_vret ⟨Nat.le_refl _, Nat.le_refl _⟩ rfl dX8_next_321 ⟨rfl, _, _, Rw324, ((((hA1.N.up (by omega)).up (by omega)).up (by omega)).up (by omega)), (show nI (lexP L p) = nI (lexP L p) from rfl), (show nI 3 = nI (rK L p) by rw [rK, if_neg (show ¬ L.length ≤ lexP L p by omega), if_neg (show ¬ isLt (L.getD (lexP L p) 0) = true from fun q => by have := of_decide_eq_true q; omega), if_neg (show ¬ isDg (L.getD (lexP L p) 0) = true from fun q => by have := of_decide_eq_true q; omega), if_pos (show isSg (L.getD (lexP L p) 0) = true from decide_eq_true (by omega))]), fun _ => (show nI (lexP L p + 1) = nI (tkN L p) by rw [tkN, if_neg (show ¬ L.length ≤ lexP L p by omega), if_neg (show ¬ isLt (L.getD (lexP L p) 0) = true from fun q => by have := of_decide_eq_true q; omega), if_neg (show ¬ isDg (L.getD (lexP L p) 0) = true from fun q => by have := of_decide_eq_true q; omega)]), (fun q => absurd q (by rw [rK, if_neg (show ¬ L.length ≤ lexP L p by omega), if_neg (show ¬ isLt (L.getD (lexP L p) 0) = true from fun q => by have := of_decide_eq_true q; omega), if_neg (show ¬ isDg (L.getD (lexP L p) 0) = true from fun q => by have := of_decide_eq_true q; omega), if_pos (show isSg (L.getD (lexP L p) 0) = true from decide_eq_true (by omega))]; decide)), (fun _ => tL (nI_toInt (by omega)))⟩
              · refine x_iload_n dX8_next_276 rfl ?_
                refine x_bipush (v := nI 45) dX8_next_277 (by decide) ?_
                refine x_icmpN_eq (tgt := 300) dX8_next_279 (by decide) (by omega) (by omega) (fun hv325 => ?_) (fun hv325 => ?_)
                · refine x_aload_n dX8_next_300 rfl ?_
                  refine x_iconst (v := nI 3) dX8_next_301 (by decide) ?_
                  refine x_rput (up (up (up a1 25 (nI ((lexP L p)))) 24 (nI 4)) 24 (nI 3)) tw f_X8_156 Rw303 (by decide) rfl (fun c => ⟨rfl, rfl⟩) dX8_next_302 (fun sw326 Rw326 => ?_)
                  refine x_aload_n dX8_next_305 rfl ?_
                  refine x_iload_n dX8_next_306 rfl ?_
                  refine x_i2l dX8_next_307 ?_
                  refine x_rput (up (up (up a1 25 (nI ((lexP L p)))) 24 (nI 4)) 24 (nI 3)) (nI ((L.getD (lexP L p) 0))).toInt64 f_X8_167 Rw326 (by decide) rfl (fun c => ⟨rfl, rfl⟩) dX8_next_308 (fun sw327 Rw327 => ?_)
                  refine x_aload_n dX8_next_311 rfl ?_
                  refine x_dup dX8_next_312 rfl ?_
                  refine x_rget (v := .int (nI ((lexP L p)))) f_X8_147 Rw327 (rg c23) dX8_next_313 ?_
                  refine x_iconst (v := nI 1) dX8_next_316 (by decide) ?_
                  refine x_iaddN dX8_next_317 ?_
                  refine x_rput (up (up (up (up a1 25 (nI ((lexP L p)))) 24 (nI 4)) 24 (nI 3)) 23 (nI (((lexP L p)) + 1))) (nI ((L.getD (lexP L p) 0))).toInt64 f_X8_147 Rw327 (by decide) rfl (fun c => ⟨rfl, rfl⟩) dX8_next_318 (fun sw328 Rw328 => ?_)
                  exact x_vret ⟨Nat.le_refl _, Nat.le_refl _⟩ rfl dX8_next_321 ⟨rfl, _, _, Rw328, ((((hA1.N.up (by omega)).up (by omega)).up (by omega)).up (by omega)), (show nI (lexP L p) = nI (lexP L p) from rfl), (show nI 3 = nI (rK L p) by rw [rK, if_neg (show ¬ L.length ≤ lexP L p by omega), if_neg (show ¬ isLt (L.getD (lexP L p) 0) = true from fun q => by have := of_decide_eq_true q; omega), if_neg (show ¬ isDg (L.getD (lexP L p) 0) = true from fun q => by have := of_decide_eq_true q; omega), if_pos (show isSg (L.getD (lexP L p) 0) = true from decide_eq_true (by omega))]), fun _ => (show nI (lexP L p + 1) = nI (tkN L p) by rw [tkN, if_neg (show ¬ L.length ≤ lexP L p by omega), if_neg (show ¬ isLt (L.getD (lexP L p) 0) = true from fun q => by have := of_decide_eq_true q; omega), if_neg (show ¬ isDg (L.getD (lexP L p) 0) = true from fun q => by have := of_decide_eq_true q; omega)]), (fun q => absurd q (by rw [rK, if_neg (show ¬ L.length ≤ lexP L p by omega), if_neg (show ¬ isLt (L.getD (lexP L p) 0) = true from fun q => by have := of_decide_eq_true q; omega), if_neg (show ¬ isDg (L.getD (lexP L p) 0) = true from fun q => by have := of_decide_eq_true q; omega), if_pos (show isSg (L.getD (lexP L p) 0) = true from decide_eq_true (by omega))]; decide)), (fun _ => tL (nI_toInt (by omega)))⟩
                · refine x_iload_n dX8_next_282 rfl ?_
                  refine x_bipush (v := nI 42) dX8_next_283 (by decide) ?_
                  refine x_icmpN_eq (tgt := 300) dX8_next_285 (by decide) (by omega) (by omega) (fun hv329 => ?_) (fun hv329 => ?_)
                  · refine x_aload_n dX8_next_300 rfl ?_
                    refine x_iconst (v := nI 3) dX8_next_301 (by decide) ?_
                    refine x_rput (up (up (up a1 25 (nI ((lexP L p)))) 24 (nI 4)) 24 (nI 3)) tw f_X8_156 Rw303 (by decide) rfl (fun c => ⟨rfl, rfl⟩) dX8_next_302 (fun sw330 Rw330 => ?_)
                    refine x_aload_n dX8_next_305 rfl ?_
                    refine x_iload_n dX8_next_306 rfl ?_
                    refine x_i2l dX8_next_307 ?_
                    refine x_rput (up (up (up a1 25 (nI ((lexP L p)))) 24 (nI 4)) 24 (nI 3)) (nI ((L.getD (lexP L p) 0))).toInt64 f_X8_167 Rw330 (by decide) rfl (fun c => ⟨rfl, rfl⟩) dX8_next_308 (fun sw331 Rw331 => ?_)
                    refine x_aload_n dX8_next_311 rfl ?_
                    refine x_dup dX8_next_312 rfl ?_
                    refine x_rget (v := .int (nI ((lexP L p)))) f_X8_147 Rw331 (rg c23) dX8_next_313 ?_
                    refine x_iconst (v := nI 1) dX8_next_316 (by decide) ?_
                    refine x_iaddN dX8_next_317 ?_
                    refine x_rput (up (up (up (up a1 25 (nI ((lexP L p)))) 24 (nI 4)) 24 (nI 3)) 23 (nI (((lexP L p)) + 1))) (nI ((L.getD (lexP L p) 0))).toInt64 f_X8_147 Rw331 (by decide) rfl (fun c => ⟨rfl, rfl⟩) dX8_next_318 (fun sw332 Rw332 => ?_)
                    exact x_vret ⟨Nat.le_refl _, Nat.le_refl _⟩ rfl dX8_next_321 ⟨rfl, _, _, Rw332, ((((hA1.N.up (by omega)).up (by omega)).up (by omega)).up (by omega)), (show nI (lexP L p) = nI (lexP L p) from rfl), (show nI 3 = nI (rK L p) by rw [rK, if_neg (show ¬ L.length ≤ lexP L p by omega), if_neg (show ¬ isLt (L.getD (lexP L p) 0) = true from fun q => by have := of_decide_eq_true q; omega), if_neg (show ¬ isDg (L.getD (lexP L p) 0) = true from fun q => by have := of_decide_eq_true q; omega), if_pos (show isSg (L.getD (lexP L p) 0) = true from decide_eq_true (by omega))]), fun _ => (show nI (lexP L p + 1) = nI (tkN L p) by rw [tkN, if_neg (show ¬ L.length ≤ lexP L p by omega), if_neg (show ¬ isLt (L.getD (lexP L p) 0) = true from fun q => by have := of_decide_eq_true q; omega), if_neg (show ¬ isDg (L.getD (lexP L p) 0) = true from fun q => by have := of_decide_eq_true q; omega)]), (fun q => absurd q (by rw [rK, if_neg (show ¬ L.length ≤ lexP L p by omega), if_neg (show ¬ isLt (L.getD (lexP L p) 0) = true from fun q => by have := of_decide_eq_true q; omega), if_neg (show ¬ isDg (L.getD (lexP L p) 0) = true from fun q => by have := of_decide_eq_true q; omega), if_pos (show isSg (L.getD (lexP L p) 0) = true from decide_eq_true (by omega))]; decide)), (fun _ => tL (nI_toInt (by omega)))⟩
                  · refine x_iload_n dX8_next_288 rfl ?_
                    refine x_bipush (v := nI 60) dX8_next_289 (by decide) ?_
                    refine x_icmpN_eq (tgt := 300) dX8_next_291 (by decide) (by omega) (by omega) (fun hv333 => ?_) (fun hv333 => ?_)
                    · refine x_aload_n dX8_next_300 rfl ?_
                      refine x_iconst (v := nI 3) dX8_next_301 (by decide) ?_
                      refine x_rput (up (up (up a1 25 (nI ((lexP L p)))) 24 (nI 4)) 24 (nI 3)) tw f_X8_156 Rw303 (by decide) rfl (fun c => ⟨rfl, rfl⟩) dX8_next_302 (fun sw334 Rw334 => ?_)
                      refine x_aload_n dX8_next_305 rfl ?_
                      refine x_iload_n dX8_next_306 rfl ?_
                      refine x_i2l dX8_next_307 ?_
                      refine x_rput (up (up (up a1 25 (nI ((lexP L p)))) 24 (nI 4)) 24 (nI 3)) (nI ((L.getD (lexP L p) 0))).toInt64 f_X8_167 Rw334 (by decide) rfl (fun c => ⟨rfl, rfl⟩) dX8_next_308 (fun sw335 Rw335 => ?_)
                      refine x_aload_n dX8_next_311 rfl ?_
                      refine x_dup dX8_next_312 rfl ?_
                      refine x_rget (v := .int (nI ((lexP L p)))) f_X8_147 Rw335 (rg c23) dX8_next_313 ?_
                      refine x_iconst (v := nI 1) dX8_next_316 (by decide) ?_
                      refine x_iaddN dX8_next_317 ?_
                      refine x_rput (up (up (up (up a1 25 (nI ((lexP L p)))) 24 (nI 4)) 24 (nI 3)) 23 (nI (((lexP L p)) + 1))) (nI ((L.getD (lexP L p) 0))).toInt64 f_X8_147 Rw335 (by decide) rfl (fun c => ⟨rfl, rfl⟩) dX8_next_318 (fun sw336 Rw336 => ?_)
                      exact x_vret ⟨Nat.le_refl _, Nat.le_refl _⟩ rfl dX8_next_321 ⟨rfl, _, _, Rw336, ((((hA1.N.up (by omega)).up (by omega)).up (by omega)).up (by omega)), (show nI (lexP L p) = nI (lexP L p) from rfl), (show nI 3 = nI (rK L p) by rw [rK, if_neg (show ¬ L.length ≤ lexP L p by omega), if_neg (show ¬ isLt (L.getD (lexP L p) 0) = true from fun q => by have := of_decide_eq_true q; omega), if_neg (show ¬ isDg (L.getD (lexP L p) 0) = true from fun q => by have := of_decide_eq_true q; omega), if_pos (show isSg (L.getD (lexP L p) 0) = true from decide_eq_true (by omega))]), fun _ => (show nI (lexP L p + 1) = nI (tkN L p) by rw [tkN, if_neg (show ¬ L.length ≤ lexP L p by omega), if_neg (show ¬ isLt (L.getD (lexP L p) 0) = true from fun q => by have := of_decide_eq_true q; omega), if_neg (show ¬ isDg (L.getD (lexP L p) 0) = true from fun q => by have := of_decide_eq_true q; omega)]), (fun q => absurd q (by rw [rK, if_neg (show ¬ L.length ≤ lexP L p by omega), if_neg (show ¬ isLt (L.getD (lexP L p) 0) = true from fun q => by have := of_decide_eq_true q; omega), if_neg (show ¬ isDg (L.getD (lexP L p) 0) = true from fun q => by have := of_decide_eq_true q; omega), if_pos (show isSg (L.getD (lexP L p) 0) = true from decide_eq_true (by omega))]; decide)), (fun _ => tL (nI_toInt (by omega)))⟩
                    · refine x_iload_n dX8_next_294 rfl ?_
                      refine x_bipush (v := nI 61) dX8_next_295 (by decide) ?_
                      refine x_icmpN_ne (tgt := 321) dX8_next_297 (by decide) (by omega) (by omega) (fun hv337 => ?_) (fun hv337 => ?_)
                      · exact x_vret ⟨Nat.le_refl _, Nat.le_refl _⟩ rfl dX8_next_321 ⟨rfl, _, _, Rw303, ((hA1.N.up (by omega)).up (by omega)), (show nI (lexP L p) = nI (lexP L p) from rfl), (show nI 4 = nI (rK L p) by rw [rK, if_neg (show ¬ L.length ≤ lexP L p by omega), if_neg (show ¬ isLt (L.getD (lexP L p) 0) = true from fun q => by have := of_decide_eq_true q; omega), if_neg (show ¬ isDg (L.getD (lexP L p) 0) = true from fun q => by have := of_decide_eq_true q; omega), if_neg (show ¬ isSg (L.getD (lexP L p) 0) = true from fun q => by have := of_decide_eq_true q; omega)]), (fun q => absurd (by rw [rK, if_neg (show ¬ L.length ≤ lexP L p by omega), if_neg (show ¬ isLt (L.getD (lexP L p) 0) = true from fun q => by have := of_decide_eq_true q; omega), if_neg (show ¬ isDg (L.getD (lexP L p) 0) = true from fun q => by have := of_decide_eq_true q; omega), if_neg (show ¬ isSg (L.getD (lexP L p) 0) = true from fun q => by have := of_decide_eq_true q; omega)]) q), (fun q => absurd q (by rw [rK, if_neg (show ¬ L.length ≤ lexP L p by omega), if_neg (show ¬ isLt (L.getD (lexP L p) 0) = true from fun q => by have := of_decide_eq_true q; omega), if_neg (show ¬ isDg (L.getD (lexP L p) 0) = true from fun q => by have := of_decide_eq_true q; omega), if_neg (show ¬ isSg (L.getD (lexP L p) 0) = true from fun q => by have := of_decide_eq_true q; omega)]; decide)), (fun q => absurd q (by rw [rK, if_neg (show ¬ L.length ≤ lexP L p by omega), if_neg (show ¬ isLt (L.getD (lexP L p) 0) = true from fun q => by have := of_decide_eq_true q; omega), if_neg (show ¬ isDg (L.getD (lexP L p) 0) = true from fun q => by have := of_decide_eq_true q; omega), if_neg (show ¬ isSg (L.getD (lexP L p) 0) = true from fun q => by have := of_decide_eq_true q; omega)]; decide))⟩
                      · refine x_aload_n dX8_next_300 rfl ?_
                        refine x_iconst (v := nI 3) dX8_next_301 (by decide) ?_
                        refine x_rput (up (up (up a1 25 (nI ((lexP L p)))) 24 (nI 4)) 24 (nI 3)) tw f_X8_156 Rw303 (by decide) rfl (fun c => ⟨rfl, rfl⟩) dX8_next_302 (fun sw338 Rw338 => ?_)
                        refine x_aload_n dX8_next_305 rfl ?_
                        refine x_iload_n dX8_next_306 rfl ?_
                        refine x_i2l dX8_next_307 ?_
                        refine x_rput (up (up (up a1 25 (nI ((lexP L p)))) 24 (nI 4)) 24 (nI 3)) (nI ((L.getD (lexP L p) 0))).toInt64 f_X8_167 Rw338 (by decide) rfl (fun c => ⟨rfl, rfl⟩) dX8_next_308 (fun sw339 Rw339 => ?_)
                        refine x_aload_n dX8_next_311 rfl ?_
                        refine x_dup dX8_next_312 rfl ?_
                        refine x_rget (v := .int (nI ((lexP L p)))) f_X8_147 Rw339 (rg c23) dX8_next_313 ?_
                        refine x_iconst (v := nI 1) dX8_next_316 (by decide) ?_
                        refine x_iaddN dX8_next_317 ?_
                        refine x_rput (up (up (up (up a1 25 (nI ((lexP L p)))) 24 (nI 4)) 24 (nI 3)) 23 (nI (((lexP L p)) + 1))) (nI ((L.getD (lexP L p) 0))).toInt64 f_X8_147 Rw339 (by decide) rfl (fun c => ⟨rfl, rfl⟩) dX8_next_318 (fun sw340 Rw340 => ?_)
                        exact x_vret ⟨Nat.le_refl _, Nat.le_refl _⟩ rfl dX8_next_321 ⟨rfl, _, _, Rw340, ((((hA1.N.up (by omega)).up (by omega)).up (by omega)).up (by omega)), (show nI (lexP L p) = nI (lexP L p) from rfl), (show nI 3 = nI (rK L p) by rw [rK, if_neg (show ¬ L.length ≤ lexP L p by omega), if_neg (show ¬ isLt (L.getD (lexP L p) 0) = true from fun q => by have := of_decide_eq_true q; omega), if_neg (show ¬ isDg (L.getD (lexP L p) 0) = true from fun q => by have := of_decide_eq_true q; omega), if_pos (show isSg (L.getD (lexP L p) 0) = true from decide_eq_true (by omega))]), fun _ => (show nI (lexP L p + 1) = nI (tkN L p) by rw [tkN, if_neg (show ¬ L.length ≤ lexP L p by omega), if_neg (show ¬ isLt (L.getD (lexP L p) 0) = true from fun q => by have := of_decide_eq_true q; omega), if_neg (show ¬ isDg (L.getD (lexP L p) 0) = true from fun q => by have := of_decide_eq_true q; omega)]), (fun q => absurd q (by rw [rK, if_neg (show ¬ L.length ≤ lexP L p by omega), if_neg (show ¬ isLt (L.getD (lexP L p) 0) = true from fun q => by have := of_decide_eq_true q; omega), if_neg (show ¬ isDg (L.getD (lexP L p) 0) = true from fun q => by have := of_decide_eq_true q; omega), if_pos (show isSg (L.getD (lexP L p) 0) = true from decide_eq_true (by omega))]; decide)), (fun _ => tL (nI_toInt (by omega)))⟩
      · refine x_aload_n dX8_next_148 rfl ?_
        refine x_iconst (v := nI 2) dX8_next_149 (by decide) ?_
        refine x_rput (up (up (up a1 25 (nI ((lexP L p)))) 24 (nI 4)) 24 (nI 2)) tw f_X8_156 Rw303 (by decide) rfl (fun c => ⟨rfl, rfl⟩) dX8_next_150 (fun sw341 Rw341 => ?_)
        refine x_aload_n dX8_next_153 rfl ?_
        refine x_lconst (v := 0) dX8_next_154 (by decide) ?_
        refine x_rput (up (up (up a1 25 (nI ((lexP L p)))) 24 (nI 4)) 24 (nI 2)) 0 f_X8_167 Rw341 (by decide) rfl (fun c => ⟨rfl, rfl⟩) dX8_next_155 (fun sw342 Rw342 => ?_)
        refine x_iconst (v := nI 0) dX8_next_158 (by decide) ?_
        refine x_istore_n dX8_next_159 (by decide) rfl ?_
        refine x_lv (lv' := [some (.ref 1000), some (.int (nI ((L.getD (lexP L p) 0)))), some (.int (nI 0))]) rfl ?_
        refine lr_digits (q := lexP L p) (a0 := (up (up (up a1 25 (nI ((lexP L p)))) 24 (nI 4)) 24 (nI 2))) (by omega) (fun a2 tw2 σ2 hR2 hx2 c2 hA2 ht2 => ?_) (L.length - lexP L p) 0 _ _ sw342 Rw342 hx c23 FrH.rf (fun _ => show (0 : Int64).toInt = ((0 : Nat) : Int) by decide) (fun i hi => absurd hi (by omega)) (by omega) rfl (by omega)
        have hsd := skip_b isDg (show lexP L p ≤ L.length by omega)
        refine x_aload_n dX8_next_235 rfl ?_
        refine x_iload_n dX8_next_236 rfl ?_
        refine x_iconst (v := nI 4) dX8_next_237 (by decide) ?_
        refine x_icmpN_le (tgt := 245) dX8_next_238 (by decide) (by omega) (by omega) (fun hv601 => ?_) (fun hv601 => ?_)
        · refine x_iconst (v := nI 2) dX8_next_245 (by decide) ?_
          refine x_rput (up a2 24 (nI 2)) tw2 f_X8_156 hR2 (by decide) rfl (fun c => ⟨rfl, rfl⟩) dX8_next_246 (fun sw602 Rw602 => ?_)
          refine x_goto (tgt := 321) dX8_next_249 (by decide) ?_
          exact x_vret ⟨Nat.le_refl _, Nat.le_refl _⟩ rfl dX8_next_321 ⟨rfl, _, _, Rw602, (((((hA1.N.up (by omega)).up (by omega)).up (by omega)).tr hA2.N).up (by omega)), (hA2 25 (by decide)).trans rfl, (show nI 2 = nI (rK L p) by rw [rK, if_neg (show ¬ L.length ≤ lexP L p by omega), if_neg (show ¬ isLt (L.getD (lexP L p) 0) = true from fun q => by have := of_decide_eq_true q; omega), if_pos (show isDg (L.getD (lexP L p) 0) = true from decide_eq_true (by omega)), if_neg (by omega)]), fun _ => (c2.trans (by rw [tkN, if_neg (show ¬ L.length ≤ lexP L p by omega), if_neg (show ¬ isLt (L.getD (lexP L p) 0) = true from fun q => by have := of_decide_eq_true q; omega), if_pos (show isDg (L.getD (lexP L p) 0) = true from decide_eq_true (by omega))])), (fun q => (ht2 (by omega)).trans (by rw [tkV, if_neg (show ¬ isLt (L.getD (lexP L p) 0) = true from fun q => by have := of_decide_eq_true q; omega)])), (fun q => absurd q (by rw [rK, if_neg (show ¬ L.length ≤ lexP L p by omega), if_neg (show ¬ isLt (L.getD (lexP L p) 0) = true from fun q => by have := of_decide_eq_true q; omega), if_pos (show isDg (L.getD (lexP L p) 0) = true from decide_eq_true (by omega)), if_neg (by omega)]; decide))⟩
        · refine x_iconst (v := nI 4) dX8_next_241 (by decide) ?_
          refine x_goto (tgt := 246) dX8_next_242 (by decide) ?_
          refine x_rput (up a2 24 (nI 4)) tw2 f_X8_156 hR2 (by decide) rfl (fun c => ⟨rfl, rfl⟩) dX8_next_246 (fun sw603 Rw603 => ?_)
          refine x_goto (tgt := 321) dX8_next_249 (by decide) ?_
          exact x_vret ⟨Nat.le_refl _, Nat.le_refl _⟩ rfl dX8_next_321 ⟨rfl, _, _, Rw603, (((((hA1.N.up (by omega)).up (by omega)).up (by omega)).tr hA2.N).up (by omega)), (hA2 25 (by decide)).trans rfl, (show nI 4 = nI (rK L p) by rw [rK, if_neg (show ¬ L.length ≤ lexP L p by omega), if_neg (show ¬ isLt (L.getD (lexP L p) 0) = true from fun q => by have := of_decide_eq_true q; omega), if_pos (show isDg (L.getD (lexP L p) 0) = true from decide_eq_true (by omega)), if_pos (by omega)]), fun _ => (c2.trans (by rw [tkN, if_neg (show ¬ L.length ≤ lexP L p by omega), if_neg (show ¬ isLt (L.getD (lexP L p) 0) = true from fun q => by have := of_decide_eq_true q; omega), if_pos (show isDg (L.getD (lexP L p) 0) = true from decide_eq_true (by omega))])), (fun q => absurd q (by rw [rK, if_neg (show ¬ L.length ≤ lexP L p by omega), if_neg (show ¬ isLt (L.getD (lexP L p) 0) = true from fun q => by have := of_decide_eq_true q; omega), if_pos (show isDg (L.getD (lexP L p) 0) = true from decide_eq_true (by omega)), if_pos (by omega)]; decide)), (fun q => absurd q (by rw [rK, if_neg (show ¬ L.length ≤ lexP L p by omega), if_neg (show ¬ isLt (L.getD (lexP L p) 0) = true from fun q => by have := of_decide_eq_true q; omega), if_pos (show isDg (L.getD (lexP L p) 0) = true from decide_eq_true (by omega)), if_pos (by omega)]; decide))⟩
    · refine x_aload_n dX8_next_95 rfl ?_
      refine x_iconst (v := nI 1) dX8_next_96 (by decide) ?_
      refine x_rput (up (up (up a1 25 (nI ((lexP L p)))) 24 (nI 4)) 24 (nI 1)) tw f_X8_156 Rw303 (by decide) rfl (fun c => ⟨rfl, rfl⟩) dX8_next_97 (fun sw343 Rw343 => ?_)
      refine lr_letters (p0 := lexP L p) (a0 := (up (up (up a1 25 (nI ((lexP L p)))) 24 (nI 4)) 24 (nI 1))) (by omega) (fun a2 σ2 hR2 hx2 c2 hA2 => ?_) (L.length - lexP L p) (lexP L p) _ sw343 Rw343 hx c23 FrH.rf (by omega) rfl (by omega)
      exact x_vret ⟨Nat.le_refl _, Nat.le_refl _⟩ rfl dX8_next_321 ⟨rfl, a2, _, hR2, (((hA1.N.up (by omega)).up (by omega)).up (by omega)).tr hA2.N, (hA2 25 (by decide)).trans rfl, (hA2 24 (by decide)).trans (show nI 1 = nI (rK L p) by rw [rK, if_neg (show ¬ L.length ≤ lexP L p by omega), if_pos (show isLt (L.getD (lexP L p) 0) = true from decide_eq_true (by omega))]), fun _ => (by rw [c2, tkN, if_neg (show ¬ L.length ≤ lexP L p by omega), if_pos (show isLt (L.getD (lexP L p) 0) = true from decide_eq_true (by omega))]), (fun q => absurd q (by rw [rK, if_neg (show ¬ L.length ≤ lexP L p by omega), if_pos (show isLt (L.getD (lexP L p) 0) = true from decide_eq_true (by omega))]; decide)), (fun q => absurd q (by rw [rK, if_neg (show ¬ L.length ≤ lexP L p by omega), if_pos (show isLt (L.getD (lexP L p) 0) = true from decide_eq_true (by omega))]; decide))⟩
  · refine x_topi (y := -1) (by rw [byI, if_neg (by omega)]) ?_
    refine x_istore_n dX8_next_55 (by decide) rfl ?_
    refine x_lv (lv' := [some (.ref 1000), some (.int ((-1))), none]) rfl ?_
    refine x_aload_n dX8_next_56 rfl ?_
    refine x_iconst (v := nI 4) dX8_next_57 (by decide) ?_
    refine x_rput (up (up a1 25 (nI ((lexP L p)))) 24 (nI 4)) tw f_X8_156 Rw301 (by decide) rfl (fun c => ⟨rfl, rfl⟩) dX8_next_58 (fun sw344 Rw344 => ?_)
    refine x_iload_n dX8_next_61 rfl ?_
    refine x_ifT_ge (p := (-1)) (tgt := 81) (by decide) dX8_next_62 (by decide) (fun hv345 => ?_) (fun hv345 => ?_)
    · exact absurd hv345 (by omega)
    · refine x_aload_n dX8_next_65 rfl ?_
      refine x_iconst (v := nI 0) dX8_next_66 (by decide) ?_
      refine x_rput (up (up (up a1 25 (nI ((lexP L p)))) 24 (nI 4)) 24 (nI 0)) tw f_X8_156 Rw344 (by decide) rfl (fun c => ⟨rfl, rfl⟩) dX8_next_67 (fun sw346 Rw346 => ?_)
      refine x_aload_n dX8_next_70 rfl ?_
      refine x_aload_n dX8_next_71 rfl ?_
      refine x_rget (v := .int (nI L.length)) f_X8_141 Rw346 (rg hx2) dX8_next_72 ?_
      refine x_rput (up (up (up (up a1 25 (nI ((lexP L p)))) 24 (nI 4)) 24 (nI 0)) 25 (nI L.length)) tw f_X8_153 Rw346 (by decide) rfl (fun c => ⟨rfl, rfl⟩) dX8_next_75 (fun sw347 Rw347 => ?_)
      refine x_goto (tgt := 321) dX8_next_78 (by decide) ?_
      exact x_vret ⟨Nat.le_refl _, Nat.le_refl _⟩ rfl dX8_next_321 ⟨rfl, _, _, Rw347, ((((hA1.N.up (by omega)).up (by omega)).up (by omega)).up (by omega)), (show nI L.length = nI (lexP L p) by rw [show lexP L p = L.length by omega]), (show nI 0 = nI (rK L p) by rw [rK, if_pos (show L.length ≤ lexP L p by omega)]), fun _ => (by rw [tkN, if_pos (show L.length ≤ lexP L p by omega)]; exact c23), (fun q => absurd q (by rw [rK, if_pos (show L.length ≤ lexP L p by omega)]; decide)), (fun q => absurd q (by rw [rK, if_pos (show L.length ≤ lexP L p by omega)]; decide))⟩
