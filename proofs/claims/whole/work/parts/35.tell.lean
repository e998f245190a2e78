theorem stk_bot {stk J : List Int32} {Ks : List Int32} (h : Ks = stk.reverse ++ J) (hl : 0 < stk.length) : Ks.getD 0 0 = stk.getLastD 0 := by
  subst h
  cases hq : stk.reverse with
  | nil => rw [List.reverse_eq_nil_iff] at hq; rw [hq] at hl; exact absurd hl (by simp)
  | cons a q =>
    have e : stk = q.reverse ++ [a] := by rw [← List.reverse_reverse stk, hq]; simp
    rw [e]
    simp [List.getLastD_concat]
theorem RuAt.zs {σ : ZS} {r s k : Nat} {S : List Nat} {lf jf : Nat} {e : ZC} (h : RuAt σ r s k S lf jf) : RuAt (zs σ k e) r s k S lf jf := ⟨zs_ne (fun q => h.2.2.2.2.2.2.1 q.symm) h.1, zs_ne (fun q => h.2.2.2.2.2.2.2 q.symm) h.2.1, h.2.2⟩
set_option maxHeartbeats 4000000 in
theorem l_tell {σ0 : ZS} {r s k fr pt f0 t0 : Nat} {lo : Int32} {S : List Nat} {lf jf : Nat} {F : List Int32} (hF6 : F.length = 6) (hkf : k ≠ fr) (hpt : pt ≤ 2) (hft : f0 ≤ t0) (htS : t0 ≤ S.length) (hlo : lo = if pt = 2 then (-99) else nI 0) {d : Nat} (hd : 1 ≤ d) : ∀ (m j : Nat) (stk Ks J : List Int32) (σ : ZS) (hstk : stk = runE F (segE S f0 j)) (hKs : Ks = stk.reverse ++ J) (hle : stk.length ≤ j) (hR : RuAt σ r s k S lf jf) (gk : zg σ k = some (.inl (0, Ks))) (hKl : Ks.length = S.length) (gf : zg σ fr = some (.inl (0, F))) (hFr : Fr (fun i => i = k) σ0 σ), j + m = t0 - f0 → X M_X4_tell d 0 0 (fun r9 σ' => r9 = some (.int (bndI ((runE F (segE S f0 (t0 - f0))).getLastD 0) lo (nI 99))) ∧ Fr (fun i => i = k) σ0 σ' ∧ ∃ K' : List Int32, zg σ' k = some (.inl (0, K')) ∧ K'.length = S.length) 0 0 61 [some (.ref r), some (.int (nI pt)), some (.ref fr), some (.int (nI f0)), some (.int (nI t0)), some (.int (nI stk.length)), some (.int (nI (f0 + j))), none] [] σ := by
  intro m
  induction m with
  | zero =>
    intro j stk Ks J σ hstk hKs hle hR gk hKl gf hFr hk
    obtain ⟨g0, g1, hS160, hlj, hjS, hSok, hkr, hks⟩ := id hR
    have hje : j = t0 - f0 := by omega
    refine x_iload dX4_tell_61 rfl ?_
    refine x_iload dX4_tell_63 rfl ?_
    refine x_icmpN_ge (tgt := 229) dX4_tell_65 (by decide) (by omega) (by omega) (fun h1 => ?_) (fun h1 => ?_)
    · refine x_iload dX4_tell_229 rfl ?_
      refine x_ifN_le (tgt := 243) dX4_tell_231 (by decide) (by omega) (fun h2 => ?_) (fun h2 => ?_)
      · refine x_iconst (v := nI 0) dX4_tell_243 (by decide) ?_
        refine x_iload_n dX4_tell_244 rfl ?_
        refine x_iconst (v := nI 2) dX4_tell_245 (by decide) ?_
        refine x_icmpN_ne (tgt := 254) dX4_tell_246 (by decide) (by omega) (by omega) (fun h3 => ?_) (fun h3 => ?_)
        · refine x_iconst (v := nI 0) dX4_tell_254 (by decide) ?_
          refine x_bipush (v := nI 99) dX4_tell_255 (by decide) ?_
          refine x_callSN m_X7_bounded n_X4_33 (c_bounded (nI 0) (nI 0) (nI 99)) (by omega) rfl rfl (Nat.le_of_ble_eq_true rfl) ⟨Nat.le_refl _, Nat.le_refl _⟩ dX4_tell_257 (fun r4 s4 q4 => ?_)
          obtain ⟨rfl, e4⟩ := q4
          obtain rfl := e4.symm
          refine x_stk (st' := [.int ((bndI (nI 0) (nI 0) (nI 99)))]) rfl ?_
          exact x_iret ⟨Nat.le_refl _, Nat.le_refl _⟩ rfl dX4_tell_260 ⟨by rw [← hje, ← hstk, show stk = [] from List.length_eq_zero_iff.mp h2, hlo, if_neg h3]; rfl, hFr, Ks, gk, hKl⟩
        · refine x_bipush (v := (-99)) dX4_tell_249 (by decide) ?_
          refine x_goto (tgt := 255) dX4_tell_251 (by decide) ?_
          refine x_bipush (v := nI 99) dX4_tell_255 (by decide) ?_
          refine x_callSN m_X7_bounded n_X4_33 (c_bounded (nI 0) ((-99)) (nI 99)) (by omega) rfl rfl (Nat.le_of_ble_eq_true rfl) ⟨Nat.le_refl _, Nat.le_refl _⟩ dX4_tell_257 (fun r5 s5 q5 => ?_)
          obtain ⟨rfl, e5⟩ := q5
          obtain rfl := e5.symm
          refine x_stk (st' := [.int ((bndI (nI 0) ((-99)) (nI 99)))]) rfl ?_
          exact x_iret ⟨Nat.le_refl _, Nat.le_refl _⟩ rfl dX4_tell_260 ⟨by rw [← hje, ← hstk, show stk = [] from List.length_eq_zero_iff.mp h2, hlo, if_pos h3]; rfl, hFr, Ks, gk, hKl⟩
      · refine x_aload_n dX4_tell_234 rfl ?_
        refine x_get (v := .ref k) f_X4_20 g0 rfl dX4_tell_235 ?_
        refine x_iconst (v := nI 0) dX4_tell_238 (by decide) ?_
        refine x_iald (n := 0) gk rfl (by omega) dX4_tell_239 ?_
        refine x_goto (tgt := 244) dX4_tell_240 (by decide) ?_
        refine x_iload_n dX4_tell_244 rfl ?_
        refine x_iconst (v := nI 2) dX4_tell_245 (by decide) ?_
        refine x_icmpN_ne (tgt := 254) dX4_tell_246 (by decide) (by omega) (by omega) (fun h6 => ?_) (fun h6 => ?_)
        · refine x_iconst (v := nI 0) dX4_tell_254 (by decide) ?_
          refine x_bipush (v := nI 99) dX4_tell_255 (by decide) ?_
          refine x_callSN m_X7_bounded n_X4_33 (c_bounded ((Ks.getD 0 0)) (nI 0) (nI 99)) (by omega) rfl rfl (Nat.le_of_ble_eq_true rfl) ⟨Nat.le_refl _, Nat.le_refl _⟩ dX4_tell_257 (fun r7 s7 q7 => ?_)
          obtain ⟨rfl, e7⟩ := q7
          obtain rfl := e7.symm
          refine x_stk (st' := [.int ((bndI ((Ks.getD 0 0)) (nI 0) (nI 99)))]) rfl ?_
          exact x_iret ⟨Nat.le_refl _, Nat.le_refl _⟩ rfl dX4_tell_260 ⟨by rw [← hje, ← hstk, ← stk_bot hKs h2, hlo, if_neg h6], hFr, Ks, gk, hKl⟩
        · refine x_bipush (v := (-99)) dX4_tell_249 (by decide) ?_
          refine x_goto (tgt := 255) dX4_tell_251 (by decide) ?_
          refine x_bipush (v := nI 99) dX4_tell_255 (by decide) ?_
          refine x_callSN m_X7_bounded n_X4_33 (c_bounded ((Ks.getD 0 0)) ((-99)) (nI 99)) (by omega) rfl rfl (Nat.le_of_ble_eq_true rfl) ⟨Nat.le_refl _, Nat.le_refl _⟩ dX4_tell_257 (fun r8 s8 q8 => ?_)
          obtain ⟨rfl, e8⟩ := q8
          obtain rfl := e8.symm
          refine x_stk (st' := [.int ((bndI ((Ks.getD 0 0)) ((-99)) (nI 99)))]) rfl ?_
          exact x_iret ⟨Nat.le_refl _, Nat.le_refl _⟩ rfl dX4_tell_260 ⟨by rw [← hje, ← hstk, ← stk_bot hKs h2, hlo, if_pos h6], hFr, Ks, gk, hKl⟩
    · exact absurd h1 (by omega)
  | succ m ih =>
    intro j stk Ks J σ hstk hKs hle hR gk hKl gf hFr hk
    obtain ⟨g0, g1, hS160, hlj, hjS, hSok, hkr, hks⟩ := id hR
    have hje : j + 0 = j := rfl
    refine x_iload dX4_tell_61 rfl ?_
    refine x_iload dX4_tell_63 rfl ?_
    refine x_icmpN_ge (tgt := 229) dX4_tell_65 (by decide) (by omega) (by omega) (fun h1 => ?_) (fun h1 => ?_)
    · exact absurd h1 (by omega)
    · refine x_aload_n dX4_tell_68 rfl ?_
      refine x_get (v := .ref s) f_X4_7 g0 rfl dX4_tell_69 ?_
      refine x_iload dX4_tell_72 rfl ?_
      refine x_iald (n := f0 + j) g1 rfl (by rw [List.length_map]; omega) dX4_tell_74 ?_
      refine x_topi (y := nI ((S.getD (f0 + j) 0))) gm_getD ?_
      obtain ⟨sv, hsv⟩ : ∃ sv, sv = S.getD (f0 + j) 0 := ⟨_, rfl⟩
      have hok : okSt sv := by rw [hsv]; exact hSok _ (by omega)
      unfold okSt at hok
      refine x_topi (y := nI sv) (by rw [hsv]) ?_
      refine x_istore dX4_tell_75 (by decide) rfl ?_
      refine x_lv (lv' := [some (.ref r), some (.int (nI pt)), some (.ref fr), some (.int (nI f0)), some (.int (nI t0)), some (.int (nI stk.length)), some (.int (nI (f0 + j))), some (.int (nI sv))]) rfl ?_
      refine x_iload dX4_tell_77 rfl ?_
      refine x_sipush (v := nI 20000) dX4_tell_79 (by decide) ?_
      refine x_icmpN_ge (tgt := 129) dX4_tell_82 (by decide) (by omega) (by omega) (fun h2 => ?_) (fun h2 => ?_)
      · refine x_iload dX4_tell_129 rfl ?_
        refine x_sipush (v := nI 20004) dX4_tell_131 (by decide) ?_
        refine x_icmpN_eq (tgt := 145) dX4_tell_134 (by decide) (by omega) (by omega) (fun h3 => ?_) (fun h3 => ?_)
        · refine x_iload dX4_tell_145 rfl ?_
          refine x_ifN_le (tgt := 223) dX4_tell_147 (by decide) (by omega) (fun h4 => ?_) (fun h4 => ?_)
          · refine x_iincN dX4_tell_223 rfl (by decide) rfl ?_
            refine x_lv (lv' := [some (.ref r), some (.int (nI pt)), some (.ref fr), some (.int (nI f0)), some (.int (nI t0)), some (.int (nI stk.length)), some (.int (nI ((f0 + j) + 1))), some (.int (nI sv))]) rfl ?_
            refine x_goto (tgt := 61) dX4_tell_226 (by decide) ?_
            refine x_drop 7 ?_
            obtain rfl : stk = [] := List.length_eq_zero_iff.mp h4
            exact ih (j + 1) [] Ks J _ (by rw [runE_succ (by omega), ← hstk, ← hsv, stepE.eq_def, if_neg (by omega), if_pos (Or.inl h3)]) hKs (by simp) hR gk hKl gf hFr (by omega)
          · obtain ⟨v, q, rfl⟩ : ∃ v q, stk = v :: q := by
              cases stk with
              | nil => exact absurd h4 (by simp)
              | cons v q => exact ⟨v, q, rfl⟩
            rw [List.length_cons] at hle
            refine x_lv (lv' := [some (.ref r), some (.int (nI pt)), some (.ref fr), some (.int (nI f0)), some (.int (nI t0)), some (.int (nI (q.length + 1))), some (.int (nI (f0 + j))), some (.int (nI sv))]) rfl ?_
            refine x_aload_n dX4_tell_150 rfl ?_
            refine x_get (v := .ref k) f_X4_20 g0 rfl dX4_tell_151 ?_
            refine x_iload dX4_tell_154 rfl ?_
            refine x_iconst (v := nI 1) dX4_tell_156 (by decide) ?_
            refine x_isubN (by omega) dX4_tell_157 ?_
            refine x_iload dX4_tell_158 rfl ?_
            refine x_sipush (v := nI 20000) dX4_tell_160 (by decide) ?_
            refine x_isubN (by omega) dX4_tell_163 ?_
            refine x_aload_n dX4_tell_164 rfl ?_
            refine x_get (v := .ref k) f_X4_20 g0 rfl dX4_tell_165 ?_
            refine x_iload dX4_tell_168 rfl ?_
            refine x_iconst (v := nI 1) dX4_tell_170 (by decide) ?_
            refine x_isubN (by omega) dX4_tell_171 ?_
            refine x_iald (n := (q.length + 1) - 1) gk rfl (by omega) dX4_tell_172 ?_
            refine x_callS m_X4_turned l_X4_25 (c_turned (by omega) _) (by omega) rfl rfl (Nat.le_of_ble_eq_true rfl) ⟨Nat.le_refl _, Nat.le_refl _⟩ dX4_tell_173 (fun r5 s5 q5 => ?_)
            obtain ⟨rfl, e5⟩ := q5
            obtain rfl := e5.symm
            refine x_stk (st' := [.int ((turnE (sv - 20000) ((Ks.getD ((q.length + 1) - 1) 0)))), .int (nI ((q.length + 1) - 1)), .ref k]) rfl ?_
            refine x_iast (n := (q.length + 1) - 1) gk rfl (by omega) dX4_tell_176 ?_
            refine x_st (σ' := (zs σ k (.inl (0, (Ks.set ((q.length + 1) - 1) ((turnE (sv - 20000) ((Ks.getD ((q.length + 1) - 1) 0))))))))) rfl ?_
            refine x_goto (tgt := 223) dX4_tell_177 (by decide) ?_
            refine x_iincN dX4_tell_223 rfl (by decide) rfl ?_
            refine x_lv (lv' := [some (.ref r), some (.int (nI pt)), some (.ref fr), some (.int (nI f0)), some (.int (nI t0)), some (.int (nI (q.length + 1))), some (.int (nI ((f0 + j) + 1))), some (.int (nI sv))]) rfl ?_
            refine x_goto (tgt := 61) dX4_tell_226 (by decide) ?_
            refine x_drop 7 ?_
            have e1 := stk_top hKs
            have e2 := stk_set (w := turnE (sv - 20000) v) hKs
            rw [Nat.add_sub_cancel, e1]
            exact ih (j + 1) (turnE (sv - 20000) v :: q) (Ks.set q.length (turnE (sv - 20000) v)) J _ (by rw [runE_succ (by omega), ← hstk, ← hsv, stepE.eq_def, if_neg (by omega), if_pos (Or.inl h3)]) e2 (by rw [List.length_cons]; omega) hR.zs (zs_eq gk) (by rw [List.length_set]; exact hKl) (zs_ne (fun q => hkf q.symm) gf) (hFr.zs rfl) (by omega)
        · refine x_iload dX4_tell_137 rfl ?_
          refine x_sipush (v := nI 20010) dX4_tell_139 (by decide) ?_
          refine x_icmpN_ne (tgt := 180) dX4_tell_142 (by decide) (by omega) (by omega) (fun h6 => ?_) (fun h6 => ?_)
          · refine x_iload dX4_tell_180 rfl ?_
            refine x_iconst (v := nI 1) dX4_tell_182 (by decide) ?_
            refine x_icmpN_le (tgt := 223) dX4_tell_183 (by decide) (by omega) (by omega) (fun h7 => ?_) (fun h7 => ?_)
            · refine x_iincN dX4_tell_223 rfl (by decide) rfl ?_
              refine x_lv (lv' := [some (.ref r), some (.int (nI pt)), some (.ref fr), some (.int (nI f0)), some (.int (nI t0)), some (.int (nI stk.length)), some (.int (nI ((f0 + j) + 1))), some (.int (nI sv))]) rfl ?_
              refine x_goto (tgt := 61) dX4_tell_226 (by decide) ?_
              refine x_drop 7 ?_
              have e : stepE F stk sv = stk := by
                rw [stepE.eq_def, if_neg (by omega), if_neg (by omega)]
                cases stk with
                | nil => rfl
                | cons b q =>
                  cases q with
                  | nil => rfl
                  | cons a q => exact absurd h7 (by simp)
              exact ih (j + 1) stk Ks J _ (by rw [runE_succ (by omega), ← hstk, ← hsv, e]) hKs (by omega) hR gk hKl gf hFr (by omega)
            · obtain ⟨b, a, q, rfl⟩ : ∃ b a q, stk = b :: a :: q := by
                cases stk with
                | nil => exact absurd h7 (by simp)
                | cons b q =>
                  cases q with
                  | nil => exact absurd h7 (by simp)
                  | cons a q => exact ⟨b, a, q, rfl⟩
              rw [List.length_cons, List.length_cons] at hle
              refine x_lv (lv' := [some (.ref r), some (.int (nI pt)), some (.ref fr), some (.int (nI f0)), some (.int (nI t0)), some (.int (nI ((q.length + 1) + 1))), some (.int (nI (f0 + j))), some (.int (nI sv))]) rfl ?_
              refine x_iincD dX4_tell_186 rfl (by decide) rfl ?_
              refine x_lv (lv' := [some (.ref r), some (.int (nI pt)), some (.ref fr), some (.int (nI f0)), some (.int (nI t0)), some (.int (nI ((q.length + 1)))), some (.int (nI (f0 + j))), some (.int (nI sv))]) rfl ?_
              refine x_aload_n dX4_tell_189 rfl ?_
              refine x_get (v := .ref k) f_X4_20 g0 rfl dX4_tell_190 ?_
              refine x_iload dX4_tell_193 rfl ?_
              refine x_iconst (v := nI 1) dX4_tell_195 (by decide) ?_
              refine x_isubN (by omega) dX4_tell_196 ?_
              refine x_iload dX4_tell_197 rfl ?_
              refine x_sipush (v := nI 20000) dX4_tell_199 (by decide) ?_
              refine x_isubN (by omega) dX4_tell_202 ?_
              refine x_aload_n dX4_tell_203 rfl ?_
              refine x_get (v := .ref k) f_X4_20 g0 rfl dX4_tell_204 ?_
              refine x_iload dX4_tell_207 rfl ?_
              refine x_iconst (v := nI 1) dX4_tell_209 (by decide) ?_
              refine x_isubN (by omega) dX4_tell_210 ?_
              refine x_iald (n := ((q.length + 1)) - 1) gk rfl (by omega) dX4_tell_211 ?_
              refine x_aload_n dX4_tell_212 rfl ?_
              refine x_get (v := .ref k) f_X4_20 g0 rfl dX4_tell_213 ?_
              refine x_iload dX4_tell_216 rfl ?_
              refine x_iald (n := (q.length + 1)) gk rfl (by omega) dX4_tell_218 ?_
              refine x_callS m_X4_joined l_X4_29 (c_joined (by omega) _ _) (by omega) rfl rfl (Nat.le_of_ble_eq_true rfl) ⟨Nat.le_refl _, Nat.le_refl _⟩ dX4_tell_219 (fun r8 s8 q8 => ?_)
              obtain ⟨rfl, e8⟩ := q8
              obtain rfl := e8.symm
              refine x_stk (st' := [.int ((joinE (sv - 20000) ((Ks.getD (((q.length + 1)) - 1) 0)) ((Ks.getD ((q.length + 1)) 0)))), .int (nI (((q.length + 1)) - 1)), .ref k]) rfl ?_
              refine x_iast (n := ((q.length + 1)) - 1) gk rfl (by omega) dX4_tell_222 ?_
              refine x_st (σ' := (zs σ k (.inl (0, (Ks.set (((q.length + 1)) - 1) ((joinE (sv - 20000) ((Ks.getD (((q.length + 1)) - 1) 0)) ((Ks.getD ((q.length + 1)) 0))))))))) rfl ?_
              refine x_iincN dX4_tell_223 rfl (by decide) rfl ?_
              refine x_lv (lv' := [some (.ref r), some (.int (nI pt)), some (.ref fr), some (.int (nI f0)), some (.int (nI t0)), some (.int (nI ((q.length + 1)))), some (.int (nI ((f0 + j) + 1))), some (.int (nI sv))]) rfl ?_
              refine x_goto (tgt := 61) dX4_tell_226 (by decide) ?_
              refine x_drop 7 ?_
              have hKs2 := stk_pop hKs
              have e1 := stk_top hKs2
              have e3 : Ks.getD (q.length + 1) 0 = b := stk_top hKs
              have e2 := stk_set (w := joinE (sv - 20000) a b) hKs2
              rw [Nat.add_sub_cancel, e1, e3]
              exact ih (j + 1) (joinE (sv - 20000) a b :: q) (Ks.set q.length (joinE (sv - 20000) a b)) (b :: J) _ (by rw [runE_succ (by omega), ← hstk, ← hsv, stepE.eq_def, if_neg (by omega), if_neg (by omega)]) e2 (by rw [List.length_cons]; omega) hR.zs (zs_eq gk) (by rw [List.length_set]; exact hKl) (zs_ne (fun q => hkf q.symm) gf) (hFr.zs rfl) (by omega)
          · refine x_iload dX4_tell_145 rfl ?_
            refine x_ifN_le (tgt := 223) dX4_tell_147 (by decide) (by omega) (fun h9 => ?_) (fun h9 => ?_)
            · refine x_iincN dX4_tell_223 rfl (by decide) rfl ?_
              refine x_lv (lv' := [some (.ref r), some (.int (nI pt)), some (.ref fr), some (.int (nI f0)), some (.int (nI t0)), some (.int (nI stk.length)), some (.int (nI ((f0 + j) + 1))), some (.int (nI sv))]) rfl ?_
              refine x_goto (tgt := 61) dX4_tell_226 (by decide) ?_
              refine x_drop 7 ?_
              obtain rfl : stk = [] := List.length_eq_zero_iff.mp h9
              exact ih (j + 1) [] Ks J _ (by rw [runE_succ (by omega), ← hstk, ← hsv, stepE.eq_def, if_neg (by omega), if_pos (Or.inr h6)]) hKs (by simp) hR gk hKl gf hFr (by omega)
            · obtain ⟨v, q, rfl⟩ : ∃ v q, stk = v :: q := by
                cases stk with
                | nil => exact absurd h9 (by simp)
                | cons v q => exact ⟨v, q, rfl⟩
              rw [List.length_cons] at hle
              refine x_lv (lv' := [some (.ref r), some (.int (nI pt)), some (.ref fr), some (.int (nI f0)), some (.int (nI t0)), some (.int (nI (q.length + 1))), some (.int (nI (f0 + j))), some (.int (nI sv))]) rfl ?_
              refine x_aload_n dX4_tell_150 rfl ?_
              refine x_get (v := .ref k) f_X4_20 g0 rfl dX4_tell_151 ?_
              refine x_iload dX4_tell_154 rfl ?_
              refine x_iconst (v := nI 1) dX4_tell_156 (by decide) ?_
              refine x_isubN (by omega) dX4_tell_157 ?_
              refine x_iload dX4_tell_158 rfl ?_
              refine x_sipush (v := nI 20000) dX4_tell_160 (by decide) ?_
              refine x_isubN (by omega) dX4_tell_163 ?_
              refine x_aload_n dX4_tell_164 rfl ?_
              refine x_get (v := .ref k) f_X4_20 g0 rfl dX4_tell_165 ?_
              refine x_iload dX4_tell_168 rfl ?_
              refine x_iconst (v := nI 1) dX4_tell_170 (by decide) ?_
              refine x_isubN (by omega) dX4_tell_171 ?_
              refine x_iald (n := (q.length + 1) - 1) gk rfl (by omega) dX4_tell_172 ?_
              refine x_callS m_X4_turned l_X4_25 (c_turned (by omega) _) (by omega) rfl rfl (Nat.le_of_ble_eq_true rfl) ⟨Nat.le_refl _, Nat.le_refl _⟩ dX4_tell_173 (fun r10 s10 q10 => ?_)
              obtain ⟨rfl, e10⟩ := q10
              obtain rfl := e10.symm
              refine x_stk (st' := [.int ((turnE (sv - 20000) ((Ks.getD ((q.length + 1) - 1) 0)))), .int (nI ((q.length + 1) - 1)), .ref k]) rfl ?_
              refine x_iast (n := (q.length + 1) - 1) gk rfl (by omega) dX4_tell_176 ?_
              refine x_st (σ' := (zs σ k (.inl (0, (Ks.set ((q.length + 1) - 1) ((turnE (sv - 20000) ((Ks.getD ((q.length + 1) - 1) 0))))))))) rfl ?_
              refine x_goto (tgt := 223) dX4_tell_177 (by decide) ?_
              refine x_iincN dX4_tell_223 rfl (by decide) rfl ?_
              refine x_lv (lv' := [some (.ref r), some (.int (nI pt)), some (.ref fr), some (.int (nI f0)), some (.int (nI t0)), some (.int (nI (q.length + 1))), some (.int (nI ((f0 + j) + 1))), some (.int (nI sv))]) rfl ?_
              refine x_goto (tgt := 61) dX4_tell_226 (by decide) ?_
              refine x_drop 7 ?_
              have e1 := stk_top hKs
              have e2 := stk_set (w := turnE (sv - 20000) v) hKs
              rw [Nat.add_sub_cancel, e1]
              exact ih (j + 1) (turnE (sv - 20000) v :: q) (Ks.set q.length (turnE (sv - 20000) v)) J _ (by rw [runE_succ (by omega), ← hstk, ← hsv, stepE.eq_def, if_neg (by omega), if_pos (Or.inr h6)]) e2 (by rw [List.length_cons]; omega) hR.zs (zs_eq gk) (by rw [List.length_set]; exact hKl) (zs_ne (fun q => hkf q.symm) gf) (hFr.zs rfl) (by omega)
      · refine x_iload dX4_tell_85 rfl ?_
        refine x_aload_n dX4_tell_87 rfl ?_
        refine x_get (v := .ref k) f_X4_20 g0 rfl dX4_tell_88 ?_
        refine x_alen (by decide) gk dX4_tell_91 ?_
        refine x_icmpN_ge (tgt := 223) dX4_tell_92 (by decide) (by omega) (by omega) (fun h11 => ?_) (fun h11 => ?_)
        · exact absurd h11 (by omega)
        · refine x_aload_n dX4_tell_95 rfl ?_
          refine x_get (v := .ref k) f_X4_20 g0 rfl dX4_tell_96 ?_
          refine x_iload dX4_tell_99 rfl ?_
          refine x_iload dX4_tell_101 rfl ?_
          refine x_sipush (v := nI 10000) dX4_tell_103 (by decide) ?_
          refine x_icmpN_ge (tgt := 114) dX4_tell_106 (by decide) (by omega) (by omega) (fun h12 => ?_) (fun h12 => ?_)
          · refine x_aload_n dX4_tell_114 rfl ?_
            refine x_iload dX4_tell_115 rfl ?_
            refine x_sipush (v := nI 10000) dX4_tell_117 (by decide) ?_
            refine x_isubN (by omega) dX4_tell_120 ?_
            refine x_iald (n := sv - 10000) gf rfl (by omega) dX4_tell_121 ?_
            refine x_iast (n := stk.length) gk rfl (by omega) dX4_tell_122 ?_
            refine x_st (σ' := (zs σ k (.inl (0, (Ks.set stk.length ((F.getD (sv - 10000) 0))))))) rfl ?_
            refine x_iincN dX4_tell_123 rfl (by decide) rfl ?_
            refine x_lv (lv' := [some (.ref r), some (.int (nI pt)), some (.ref fr), some (.int (nI f0)), some (.int (nI t0)), some (.int (nI (stk.length + 1))), some (.int (nI (f0 + j))), some (.int (nI sv))]) rfl ?_
            refine x_goto (tgt := 223) dX4_tell_126 (by decide) ?_
            refine x_iincN dX4_tell_223 rfl (by decide) rfl ?_
            refine x_lv (lv' := [some (.ref r), some (.int (nI pt)), some (.ref fr), some (.int (nI f0)), some (.int (nI t0)), some (.int (nI (stk.length + 1))), some (.int (nI ((f0 + j) + 1))), some (.int (nI sv))]) rfl ?_
            refine x_goto (tgt := 61) dX4_tell_226 (by decide) ?_
            refine x_drop 7 ?_
            obtain ⟨J', hJ'⟩ := stk_push (v := F.getD (sv - 10000) 0) hKs (by omega)
            exact ih (j + 1) (F.getD (sv - 10000) 0 :: stk) (Ks.set stk.length (F.getD (sv - 10000) 0)) J' _ (by rw [runE_succ (by omega), ← hstk, ← hsv, stepE.eq_def, if_pos h2, if_neg (by omega)]) hJ' (by simp; omega) hR.zs (zs_eq gk) (by rw [List.length_set]; exact hKl) (zs_ne (fun q => hkf q.symm) gf) (hFr.zs rfl) (by omega)
          · refine x_iload dX4_tell_109 rfl ?_
            refine x_goto (tgt := 122) dX4_tell_111 (by decide) ?_
            refine x_iast (n := stk.length) gk rfl (by omega) dX4_tell_122 ?_
            refine x_st (σ' := (zs σ k (.inl (0, (Ks.set stk.length (nI sv)))))) rfl ?_
            refine x_iincN dX4_tell_123 rfl (by decide) rfl ?_
            refine x_lv (lv' := [some (.ref r), some (.int (nI pt)), some (.ref fr), some (.int (nI f0)), some (.int (nI t0)), some (.int (nI (stk.length + 1))), some (.int (nI (f0 + j))), some (.int (nI sv))]) rfl ?_
            refine x_goto (tgt := 223) dX4_tell_126 (by decide) ?_
            refine x_iincN dX4_tell_223 rfl (by decide) rfl ?_
            refine x_lv (lv' := [some (.ref r), some (.int (nI pt)), some (.ref fr), some (.int (nI f0)), some (.int (nI t0)), some (.int (nI (stk.length + 1))), some (.int (nI ((f0 + j) + 1))), some (.int (nI sv))]) rfl ?_
            refine x_goto (tgt := 61) dX4_tell_226 (by decide) ?_
            refine x_drop 7 ?_
            obtain ⟨J', hJ'⟩ := stk_push (v := nI sv) hKs (by omega)
            exact ih (j + 1) (nI sv :: stk) (Ks.set stk.length (nI sv)) J' _ (by rw [runE_succ (by omega), ← hstk, ← hsv, stepE.eq_def, if_pos h2, if_pos (by omega)]) hJ' (by simp; omega) hR.zs (zs_eq gk) (by rw [List.length_set]; exact hKl) (zs_ne (fun q => hkf q.symm) gf) (hFr.zs rfl) (by omega)
