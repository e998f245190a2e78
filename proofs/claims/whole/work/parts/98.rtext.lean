/-! texts of the reference -/
def RTX (a : Nat → Int32) (b : Nat → List Int32) (TX : List (List Nat)) : Prop := a 3 = nI TX.length ∧ ∀ i, i < TX.length → (b 1).getD i 0 = nI (TX.getD i []).length ∧ ∀ j, j < (TX.getD i []).length → (b 0).getD (i * 160 + j) 0 = nI ((TX.getD i []).getD j 0)
def TXG (TX : List (List Nat)) : Prop := 1 ≤ TX.length ∧ TX.length ≤ 6 ∧ ∀ i, i < TX.length → (TX.getD i []).length ≤ 160 ∧ (∀ j, (TX.getD i []).getD j 0 ≤ 255) ∧ ∃ S lf jf, pText (TX.getD i []) = .inr (S, lf, jf)
def RTP (a : Nat → Int32) (b : Nat → List Int32) (tp : List Nat) : Prop := a 6 = nI tp.length ∧ ∀ j, j < tp.length → (b 2).getD j 0 = nI (tp.getD j 0)
def TPG (tp : List Nat) : Prop := tp.length ≤ 160 ∧ ∀ j, tp.getD j 0 ≤ 255
theorem getD_app {α : Type} {l : List α} {x d : α} {i : Nat} : (l ++ [x]).getD i d = if i < l.length then l.getD i d else if i = l.length then x else d := by
  rw [List.getD_eq_getElem?_getD, List.getElem?_append]
  by_cases h : i < l.length
  · rw [if_pos h, if_pos h, List.getD_eq_getElem?_getD]
  · rw [if_neg h, if_neg h]
    by_cases e : i = l.length
    · rw [if_pos e, e, Nat.sub_self]; rfl
    · rw [if_neg e, List.getElem?_eq_none (by simp; omega)]; rfl
theorem RTX.rt {a : Nat → Int32} {b : Nat → List Int32} {TX : List (List Nat)} {ru : Nat} {S : List Nat} {lf jf : Nat} (h : RTX a b TX) (hg : TXG TX) (h4 : a 4 = nI ru) (hru : ru < TX.length) (hp : pText (TX.getD ru []) = .inr (S, lf, jf)) : RT a b ru (TX.getD ru []) S lf jf :=
  ⟨h4, by have := hg.2.1; omega, (hg.2.2 ru hru).1, (h.2 ru hru).1, (h.2 ru hru).2, (hg.2.2 ru hru).2.1, hp⟩
set_option maxHeartbeats 4000000 in
theorem lr_text {Q : Option Value → ZS → Prop} {σ0 : ZS} {a : Nat → Int32} {tw : Int64} {b : Nat → List Int32} {TX : List (List Nat)} (hX : RTX a b TX) (hlt : TX.length < 6) {tp : List Nat} (hP : RTP a b tp) (hPg : TPG tp) {d : Nat} (hd : 0 ≤ d) (hout : ∀ (b1 : Nat → List Int32) (σ : ZS), RM σ0 σ a tw b1 → Fb 0 b b1 → (∀ p, p < TX.length * 160 → (b1 0).getD p 0 = (b 0).getD p 0) → (∀ j, j < tp.length → (b1 0).getD (TX.length * 160 + j) 0 = nI (tp.getD j 0)) → X M_X8_text d 0 0 Q 0 0 49 [some (.ref 1000), some (.int (nI tp.length))] [] σ) : ∀ (q k : Nat) (b1 : Nat → List Int32) (σ : ZS) (hR : RM σ0 σ a tw b1) (hB : Fb 0 b b1) (ho : ∀ p, p < TX.length * 160 → (b1 0).getD p 0 = (b 0).getD p 0) (hn : ∀ j, j < k → (b1 0).getD (TX.length * 160 + j) 0 = nI (tp.getD j 0)), k + q = tp.length → X M_X8_text d 0 0 (Q) 0 0 14 [some (.ref 1000), some (.int (nI k))] [] σ := by
  have hp160 := hPg.1
  intro q
  induction q with
  | zero =>
    intro k b1 σ hR hB ho hn hk
    refine x_iload_n dX8_text_14 rfl ?_
    refine x_aload_n dX8_text_15 rfl ?_
    refine x_rget (v := .int (nI tp.length)) f_X8_138 hR (rg hP.1) dX8_text_16 ?_
    refine x_icmpN_ge (tgt := 49) dX8_text_19 (by decide) (by omega) (by omega) (fun hv1 => ?_) (fun hv1 => ?_)
    · have e9 : k = tp.length := by omega
      subst e9
      exact hout b1 σ hR hB ho hn
    · exact absurd hv1 (by omega)
  | succ q ih =>
    intro k b1 σ hR hB ho hn hk
    refine x_iload_n dX8_text_14 rfl ?_
    refine x_aload_n dX8_text_15 rfl ?_
    refine x_rget (v := .int (nI tp.length)) f_X8_138 hR (rg hP.1) dX8_text_16 ?_
    refine x_icmpN_ge (tgt := 49) dX8_text_19 (by decide) (by omega) (by omega) (fun hv1 => ?_) (fun hv1 => ?_)
    · exact absurd hv1 (by omega)
    · refine x_aload_n dX8_text_22 rfl ?_
      refine x_rget f_X8_13 hR rfl dX8_text_23 ?_
      refine x_sipush (v := nI 160) dX8_text_26 (by decide) ?_
      refine x_aload_n dX8_text_29 rfl ?_
      refine x_rget (v := .int (nI TX.length)) f_X8_79 hR (rg hX.1) dX8_text_30 ?_
      refine x_imulN dX8_text_33 ?_
      refine x_topi (y := nI (TX.length * 160)) (by rw [Nat.mul_comm]) ?_
      refine x_iload_n dX8_text_34 rfl ?_
      refine x_iaddN dX8_text_35 ?_
      refine x_aload_n dX8_text_36 rfl ?_
      refine x_rget f_X8_20 hR rfl dX8_text_37 ?_
      refine x_iload_n dX8_text_40 rfl ?_
      refine x_rald (j := 2) (n := k) hR rfl (by decide) rfl rfl (rlt hR (m := 160) (by decide) rfl (by omega)) dX8_text_41 ?_
      refine x_topi (y := nI ((tp.getD k 0))) (by rw [hB 2 (by decide)]; exact hP.2 _ (by omega)) ?_
      refine x_rast (j := 0) (n := (TX.length * 160) + k) hR rfl (by decide) rfl rfl (rlt hR (m := 960) (by decide) rfl (by omega)) dX8_text_42 (fun sw2 Rw2 => ?_)
      refine x_iincN dX8_text_43 rfl (by decide) rfl ?_
      refine x_lv (lv' := [some (.ref 1000), some (.int (nI (k + 1)))]) rfl ?_
      refine x_goto (tgt := 14) dX8_text_46 (by decide) ?_
      refine ih (k + 1) (up b1 0 ((b1 0).set ((TX.length * 160) + k) (nI ((tp.getD k 0))))) sw2 Rw2 (hB.tr Fb.ups) (fun p hp => ?_) (fun j hj => ?_) (by omega)
      · rw [up_eq, gset (rlt hR (m := 960) (by decide) rfl (by omega)), if_neg (by omega)]; exact ho p hp
      · rw [up_eq, gset (rlt hR (m := 960) (by decide) rfl (by omega))]
        by_cases e : j = k
        · rw [if_pos (by omega), e]
        · rw [if_neg (by omega)]; exact hn j (by omega)
set_option maxHeartbeats 4000000 in
theorem r_text_f {σ0 σ : ZS} {a : Nat → Int32} {tw : Int64} {b : Nat → List Int32} (hR : RM σ0 σ a tw b) {TX : List (List Nat)} (hX : RTX a b TX) (hXg : TXG TX) {tp : List Nat} (hP : RTP a b tp) (hPg : TPG tp) (hlt : TX.length = 6) : Cn 160 M_X8_text 0 0 [.ref 1000] σ (fun r9 σ' => r9 = some (.int (-4)) ∧ σ' = σ) := by
  have hm6 := hXg.2.1
  refine Cn.intro (lv0 := [some (.ref 1000), none]) rfl (Nat.le_of_ble_eq_true rfl) rfl (fun d hd => ?_)
  refine x_aload_n dX8_text_0 rfl ?_
  refine x_rget (v := .int (nI TX.length)) f_X8_79 hR (rg hX.1) dX8_text_1 ?_
  refine x_bipush (v := nI 6) dX8_text_4 (by decide) ?_
  refine x_icmpN_ne (tgt := 12) dX8_text_6 (by decide) (by omega) (by omega) (fun hv1 => ?_) (fun hv1 => ?_)
  · exact absurd hlt hv1
  · refine x_bipush (v := (-4)) dX8_text_9 (by decide) ?_
    exact x_iret ⟨Nat.le_refl _, Nat.le_refl _⟩ rfl dX8_text_11 ⟨rfl, rfl⟩
set_option maxHeartbeats 4000000 in
theorem r_text_bad {σ0 σ : ZS} {a : Nat → Int32} {tw : Int64} {b : Nat → List Int32} (hR : RM σ0 σ a tw b) {TX : List (List Nat)} (hX : RTX a b TX) (hXg : TXG TX) {tp : List Nat} (hP : RTP a b tp) (hPg : TPG tp) (hlt : TX.length < 6) {f : Nat} (hp : pText tp = .inl f) : Cn 151 M_X8_text 0 0 [.ref 1000] σ (fun r9 σ' => ∃ (a' : Nat → Int32) (tw' : Int64) (b' : Nat → List Int32), RM σ0 σ' a' tw' b' ∧ r9 = some (.int ((-100) - nI f)) ∧ (∀ j, ¬ (21 ≤ j ∧ j ≤ 29) → j ≠ 3 → j ≠ 6 → a' j = a j) ∧ a' 6 = nI 0 ∧ (∀ j, j ≠ 0 → j ≠ 1 → b' j = b j) ∧ a' 3 = a 3 ∧ RTX a' b' TX) := by
  have hp160 := hPg.1
  have hl1 : (b 1).length = 6 := hR.rlen (j := 1) (by decide) (m := 6) rfl
  refine Cn.intro (lv0 := [some (.ref 1000), none]) rfl (Nat.le_of_ble_eq_true rfl) rfl (fun d hd => ?_)
  refine x_aload_n dX8_text_0 rfl ?_
  refine x_rget (v := .int (nI TX.length)) f_X8_79 hR (rg hX.1) dX8_text_1 ?_
  refine x_bipush (v := nI 6) dX8_text_4 (by decide) ?_
  refine x_icmpN_ne (tgt := 12) dX8_text_6 (by decide) (by omega) (by omega) (fun hv1 => ?_) (fun hv1 => ?_)
  · refine x_iconst (v := nI 0) dX8_text_12 (by decide) ?_
    refine x_istore_n dX8_text_13 (by decide) rfl ?_
    refine x_lv (lv' := [some (.ref 1000), some (.int (nI 0))]) rfl ?_
    refine lr_text hX (by omega) hP hPg (Nat.zero_le d) ?_ tp.length 0 b σ hR Fb.rf (fun _ _ => rfl) (fun j hj => absurd hj (by omega)) (by omega)
    intro b1 σ1 R1 B1 o1 n1
    refine x_aload_n dX8_text_49 rfl ?_
    refine x_rget f_X8_17 R1 rfl dX8_text_50 ?_
    refine x_aload_n dX8_text_53 rfl ?_
    refine x_rget (v := .int (nI TX.length)) f_X8_79 R1 (rg hX.1) dX8_text_54 ?_
    refine x_aload_n dX8_text_57 rfl ?_
    refine x_rget (v := .int (nI tp.length)) f_X8_138 R1 (rg hP.1) dX8_text_58 ?_
    refine x_rast (j := 1) (n := TX.length) R1 rfl (by decide) rfl rfl (rlt R1 (m := 6) (by decide) rfl (by omega)) dX8_text_61 (fun sw61 Rw61 => ?_)
    refine x_aload_n dX8_text_62 rfl ?_
    refine x_iconst (v := nI 0) dX8_text_63 (by decide) ?_
    refine x_rput (up a 6 (nI 0)) tw f_X8_138 Rw61 (by decide) rfl (fun c => ⟨rfl, rfl⟩) dX8_text_64 (fun sw62 Rw62 => ?_)
    refine x_aload_n dX8_text_67 rfl ?_
    refine x_aload_n dX8_text_68 rfl ?_
    refine x_rget (v := .int (nI TX.length)) f_X8_79 Rw62 (rg hX.1) dX8_text_69 ?_
    refine x_iconst (v := nI 0) dX8_text_72 (by decide) ?_
    refine x_callV m_X8_read l_X8_249 (r_read Rw62 (F := [a 15, a 16, a 17, a 18, a 19, a 20]) (fun j hj => by rcases (show j = 0 ∨ j = 1 ∨ j = 2 ∨ j = 3 ∨ j = 4 ∨ j = 5 by omega) with rfl | rfl | rfl | rfl | rfl | rfl <;> rfl) (t := TX.length) (by omega) (by decide) (L := tp) hPg.1 (by rw [up_eq, B1 1 (by decide), gset (by rw [hl1]; omega), if_pos rfl]) (fun j hj => n1 j hj) hPg.2) rfl Rw62.2.1 (by omega) rfl rfl (Nat.le_of_ble_eq_true rfl) ⟨Nat.le_refl _, Nat.le_refl _⟩ dX8_text_73 (fun r63 s63 q63 => ?_)
    obtain ⟨v63, a63, tw63, rfl, R63, A63, q63⟩ := q63
    rw [hp] at q63
    have q63 : RPft a63 f := q63
    refine x_stk (st' := [.int v63]) rfl ?_
    refine x_istore_n dX8_text_76 (by decide) rfl ?_
    refine x_lv (lv' := [some (.ref 1000), some (.int v63)]) rfl ?_
    refine x_aload_n dX8_text_77 rfl ?_
    refine x_rget (v := .int (nI 1)) f_X8_171 R63 (rg q63.1) dX8_text_78 ?_
    refine x_ifN_eq (tgt := 92) dX8_text_81 (by decide) (by omega) (fun hv64 => ?_) (fun hv64 => ?_)
    · exact absurd hv64 (by decide)
    · refine x_bipush (v := (-100)) dX8_text_84 (by decide) ?_
      refine x_aload_n dX8_text_86 rfl ?_
      refine x_rget (v := .int (nI f)) f_X8_175 R63 (rg q63.2) dX8_text_87 ?_
      refine x_isub dX8_text_90 ?_
      exact x_iret ⟨Nat.le_refl _, Nat.le_refl _⟩ rfl dX8_text_91 ⟨_, _, _, R63, rfl, (fun j h1 h3 h6 => (A63 j h1).trans (up_ne _ _ h6)), (A63 6 (by omega)).trans rfl, (fun j h0 h1 => (up_ne _ _ h1).trans (B1 j h0)), (A63 3 (by omega)), ⟨(A63 3 (by omega)).trans hX.1, fun i hi => ⟨by rw [up_eq, gset (by rw [B1 1 (by decide), hl1]; omega), if_neg (by omega), B1 1 (by decide)]; exact (hX.2 i hi).1, fun j hj => by
        have h160 := (hXg.2.2 i hi).1
        exact (o1 _ (by omega)).trans ((hX.2 i hi).2 j hj)⟩⟩⟩
  · exact absurd hv1 (by omega)
set_option maxHeartbeats 4000000 in
theorem r_text_ok {σ0 σ : ZS} {a : Nat → Int32} {tw : Int64} {b : Nat → List Int32} (hR : RM σ0 σ a tw b) {TX : List (List Nat)} (hX : RTX a b TX) (hXg : TXG TX) {tp : List Nat} (hP : RTP a b tp) (hPg : TPG tp) (hlt : TX.length < 6) {q : List Nat × Nat × Nat} (hp : pText tp = .inr q) : Cn 151 M_X8_text 0 0 [.ref 1000] σ (fun r9 σ' => ∃ (a' : Nat → Int32) (tw' : Int64) (b' : Nat → List Int32), RM σ0 σ' a' tw' b' ∧ r9 = some (.int (nI TX.length)) ∧ (∀ j, ¬ (21 ≤ j ∧ j ≤ 29) → j ≠ 3 → j ≠ 6 → a' j = a j) ∧ a' 6 = nI 0 ∧ (∀ j, j ≠ 0 → j ≠ 1 → b' j = b j) ∧ a' 3 = nI (TX.length + 1) ∧ RTX a' b' (TX ++ [tp])) := by
  have hp160 := hPg.1
  have hl1 : (b 1).length = 6 := hR.rlen (j := 1) (by decide) (m := 6) rfl
  refine Cn.intro (lv0 := [some (.ref 1000), none]) rfl (Nat.le_of_ble_eq_true rfl) rfl (fun d hd => ?_)
  refine x_aload_n dX8_text_0 rfl ?_
  refine x_rget (v := .int (nI TX.length)) f_X8_79 hR (rg hX.1) dX8_text_1 ?_
  refine x_bipush (v := nI 6) dX8_text_4 (by decide) ?_
  refine x_icmpN_ne (tgt := 12) dX8_text_6 (by decide) (by omega) (by omega) (fun hv1 => ?_) (fun hv1 => ?_)
  · refine x_iconst (v := nI 0) dX8_text_12 (by decide) ?_
    refine x_istore_n dX8_text_13 (by decide) rfl ?_
    refine x_lv (lv' := [some (.ref 1000), some (.int (nI 0))]) rfl ?_
    refine lr_text hX (by omega) hP hPg (Nat.zero_le d) ?_ tp.length 0 b σ hR Fb.rf (fun _ _ => rfl) (fun j hj => absurd hj (by omega)) (by omega)
    intro b1 σ1 R1 B1 o1 n1
    refine x_aload_n dX8_text_49 rfl ?_
    refine x_rget f_X8_17 R1 rfl dX8_text_50 ?_
    refine x_aload_n dX8_text_53 rfl ?_
    refine x_rget (v := .int (nI TX.length)) f_X8_79 R1 (rg hX.1) dX8_text_54 ?_
    refine x_aload_n dX8_text_57 rfl ?_
    refine x_rget (v := .int (nI tp.length)) f_X8_138 R1 (rg hP.1) dX8_text_58 ?_
    refine x_rast (j := 1) (n := TX.length) R1 rfl (by decide) rfl rfl (rlt R1 (m := 6) (by decide) rfl (by omega)) dX8_text_61 (fun sw61 Rw61 => ?_)
    refine x_aload_n dX8_text_62 rfl ?_
    refine x_iconst (v := nI 0) dX8_text_63 (by decide) ?_
    refine x_rput (up a 6 (nI 0)) tw f_X8_138 Rw61 (by decide) rfl (fun c => ⟨rfl, rfl⟩) dX8_text_64 (fun sw62 Rw62 => ?_)
    refine x_aload_n dX8_text_67 rfl ?_
    refine x_aload_n dX8_text_68 rfl ?_
    refine x_rget (v := .int (nI TX.length)) f_X8_79 Rw62 (rg hX.1) dX8_text_69 ?_
    refine x_iconst (v := nI 0) dX8_text_72 (by decide) ?_
    refine x_callV m_X8_read l_X8_249 (r_read Rw62 (F := [a 15, a 16, a 17, a 18, a 19, a 20]) (fun j hj => by rcases (show j = 0 ∨ j = 1 ∨ j = 2 ∨ j = 3 ∨ j = 4 ∨ j = 5 by omega) with rfl | rfl | rfl | rfl | rfl | rfl <;> rfl) (t := TX.length) (by omega) (by decide) (L := tp) hPg.1 (by rw [up_eq, B1 1 (by decide), gset (by rw [hl1]; omega), if_pos rfl]) (fun j hj => n1 j hj) hPg.2) rfl Rw62.2.1 (by omega) rfl rfl (Nat.le_of_ble_eq_true rfl) ⟨Nat.le_refl _, Nat.le_refl _⟩ dX8_text_73 (fun r63 s63 q63 => ?_)
    obtain ⟨v63, a63, tw63, rfl, R63, A63, q63⟩ := q63
    rw [hp] at q63
    obtain ⟨t2863, -⟩ := q63
    refine x_stk (st' := [.int v63]) rfl ?_
    refine x_istore_n dX8_text_76 (by decide) rfl ?_
    refine x_lv (lv' := [some (.ref 1000), some (.int v63)]) rfl ?_
    refine x_aload_n dX8_text_77 rfl ?_
    refine x_rget (v := .int (nI 0)) f_X8_171 R63 (rg t2863) dX8_text_78 ?_
    refine x_ifN_eq (tgt := 92) dX8_text_81 (by decide) (by omega) (fun hv64 => ?_) (fun hv64 => ?_)
    · refine x_aload_n dX8_text_92 rfl ?_
      refine x_dup dX8_text_93 rfl ?_
      refine x_rget (v := .int (nI TX.length)) f_X8_79 R63 (rg ((A63 3 (by omega)).trans hX.1)) dX8_text_94 ?_
      refine x_iconst (v := nI 1) dX8_text_97 (by decide) ?_
      refine x_iaddN dX8_text_98 ?_
      refine x_rput (up a63 3 (nI (TX.length + 1))) tw63 f_X8_79 R63 (by decide) rfl (fun c => ⟨rfl, rfl⟩) dX8_text_99 (fun sw65 Rw65 => ?_)
      refine x_aload_n dX8_text_102 rfl ?_
      refine x_rget (v := .int (nI (TX.length + 1))) f_X8_79 Rw65 (rg rfl) dX8_text_103 ?_
      refine x_iconst (v := nI 1) dX8_text_106 (by decide) ?_
      refine x_isubN (by omega) dX8_text_107 ?_
      exact x_iret ⟨Nat.le_refl _, Nat.le_refl _⟩ rfl dX8_text_108 ⟨_, _, _, Rw65, rfl, (fun j h1 h3 h6 => (up_ne _ _ h3).trans ((A63 j h1).trans (up_ne _ _ h6))), (up_ne _ _ (by decide)).trans ((A63 6 (by omega)).trans rfl), (fun j h0 h1 => (up_ne _ _ h1).trans (B1 j h0)), rfl, ⟨by rw [List.length_append]; rfl, fun i hi => by
        rw [List.length_append, List.length_singleton] at hi
        rw [getD_app]
        by_cases e : i < TX.length
        · rw [if_pos e]
          refine ⟨by rw [up_eq, gset (by rw [B1 1 (by decide), hl1]; omega), if_neg (by omega), B1 1 (by decide)]; exact (hX.2 i e).1, fun j hj => ?_⟩
          have h160 := (hXg.2.2 i e).1
          exact (o1 _ (by omega)).trans ((hX.2 i e).2 j hj)
        · rw [if_neg e, if_pos (by omega)]
          obtain rfl : i = TX.length := by omega
          exact ⟨by rw [up_eq, gset (by rw [B1 1 (by decide), hl1]; omega), if_pos rfl], fun j hj => n1 j hj⟩⟩⟩
    · exact absurd hv64 (by decide)
  · exact absurd hv1 (by omega)
