/-! the class: text -/
theorem pExp_r {L : List Nat} {k p p1 : Nat} (h : pExp L k (.inr p) = .inr p1) (hp : p ≤ L.length) (hk : k ≠ 0) : p < p1 ∧ p1 ≤ L.length := by
  have e : pExp L k (.inr p) = if tkK L p = k then .inr (tkN L p) else .inl (lexP L p) := rfl
  rw [e] at h
  by_cases c : tkK L p = k
  · rw [if_pos c] at h
    cases h
    have h1 := tkN_b hp
    have h2 := lexP_b hp
    have h3 := h1.2.2 (by rw [c]; exact hk)
    omega
  · rw [if_neg c] at h
    cases h
theorem pSeg_ok {L : List Nat} {k p : Nat} {S : List Nat} {q : List Nat × Nat} (h : pSeg L k S p = .inr q) (hk : k ≠ 0) (hp : p ≤ L.length) : ∃ s, q.1 = S ++ s ∧ s.length + p + 1 ≤ q.2 ∧ q.2 ≤ L.length ∧ ∀ x, x ∈ s → okSt x := by
  rw [pSeg] at h
  cases h1 : pExp L k (.inr p) with
  | inl e => rw [h1] at h; cases h
  | inr p1 =>
    rw [h1] at h
    dsimp only at h
    cases h2 : pEi L 5 p1 with
    | inl e => rw [h2] at h; cases h
    | inr w =>
      rw [h2] at h
      dsimp only at h
      cases h3 : pExp L 59 (.inr w.2) with
      | inl e => rw [h3] at h; cases h
      | inr p2 =>
        rw [h3] at h
        cases h
        have a1 := pExp_r h1 hp hk
        have a2 := (good_all L 5).2.2 p1 a1.2 w.1 w.2 (by rw [h2])
        have a3 := pExp_r h3 a2.2.1 (by decide)
        exact ⟨w.1, rfl, by simp only; omega, a3.2, a2.2.2.1⟩
theorem pText_ok {L S : List Nat} {lf jf : Nat} (h : pText L = .inr (S, lf, jf)) (hL : L.length ≤ 160) : lf ≤ jf ∧ jf ≤ S.length ∧ S.length < 160 ∧ ∀ i, i < S.length → okSt (S.getD i 0) := by
  rw [pText] at h
  cases h1 : pSeg L 5 [] 0 with
  | inl e => rw [h1] at h; cases h
  | inr q1 =>
    rw [h1] at h
    dsimp only at h
    cases h2 : pSeg L 6 q1.1 q1.2 with
    | inl e => rw [h2] at h; cases h
    | inr q2 =>
      rw [h2] at h
      dsimp only at h
      cases h3 : pSeg L 7 q2.1 q2.2 with
      | inl e => rw [h3] at h; cases h
      | inr q3 =>
        rw [h3] at h
        dsimp only at h
        by_cases c : tkK L q3.2 = 0
        · rw [if_pos c] at h
          cases h
          obtain ⟨s1, e1, l1, b1, o1⟩ := pSeg_ok h1 (by decide) (Nat.zero_le _)
          obtain ⟨s2, e2, l2, b2, o2⟩ := pSeg_ok h2 (by decide) b1
          obtain ⟨s3, e3, l3, b3, o3⟩ := pSeg_ok h3 (by decide) b2
          have f1 := congrArg List.length e1
          have f2 := congrArg List.length e2
          have f3 := congrArg List.length e3
          rw [List.length_append] at f1 f2 f3
          rw [List.length_nil] at f1
          refine ⟨by omega, by omega, by omega, fun i hi => ?_⟩
          have hm : q3.1.getD i 0 ∈ q3.1 := by
            rw [List.getD_eq_getElem?_getD, List.getElem?_eq_getElem hi]
            exact List.getElem_mem hi
          rw [e3, e2, e1, List.nil_append] at hm
          rw [e3, e2, e1, List.nil_append]
          rcases List.mem_append.mp hm with hm | hm
          · rcases List.mem_append.mp hm with hm | hm
            · exact o1 _ hm
            · exact o2 _ hm
          · exact o3 _ hm
        · rw [if_neg c] at h
          cases h
set_option maxHeartbeats 4000000 in
theorem c_rule2 {σ : ZS} {sz ap tk tp tv fa : Int32} {Tp St : List Int32} {l j c : Nat} {S : List Nat} (hr : Rd σ sz ap tk tp tv fa (nI S.length) (nI l) (nI j) Tp St) (hS : ∀ i, i < S.length → St.getD i 0 = nI (S.getD i 0)) (hS6 : S.length < 160) (hLn : Ln σ 40 18 c) (hc : c + 3 < 1000) : Cn 2 M_X3_rule 3 364 [.ref 28] σ (fun r9 σ' => r9 = some (.ref (2000 + c)) ∧ zg σ' (2000 + c) = some (.inr (.inr (3, [.ref (2000 + (c + 1)), .int (nI l), .int (nI j), .ref (2000 + (c + 1 + 1))]))) ∧ zg σ' (2000 + (c + 1)) = some (.inl (0, S.map nI)) ∧ zg σ' (2000 + (c + 1 + 1)) = some (.inl (0, List.replicate S.length 0)) ∧ Ln σ' 40 18 (c + 1 + 1 + 1) ∧ Fr (fun i => 2000 + c ≤ i ∧ i ≤ 2000 + (c + 1 + 1)) σ σ') := by
  obtain ⟨d0, d1, d2, lt1, lt2⟩ := id hr
  refine Cn.intro (lv0 := [some (.ref 28)]) rfl (Nat.le_of_ble_eq_true rfl) rfl (fun d hd => ?_)
  refine x_newG (kr := 2) (r := (2000 + c)) k_X3_53 (hLn.zq2 (by omega)) hLn.zn2 (by omega) (by first | (show _ + 4 ≤ _; omega) | (simp only [List.length_cons, List.length_nil]; omega)) dX3_rule_0 (fun sw1 Gz1 => ?_)
  refine x_dup dX3_rule_3 rfl ?_
  refine x_aload_n dX3_rule_4 rfl ?_
  refine x_get (v := .ref 30) f_X3_19 (Gz1.2.1.at (by omega) d0) rfl dX3_rule_5 ?_
  refine x_aload_n dX3_rule_8 rfl ?_
  refine x_get (v := .int (nI S.length)) f_X3_25 (Gz1.2.1.at (by omega) d0) rfl dX3_rule_9 ?_
  refine x_callS m_J7_copyOf_59c91 l_X3_55 (c_copyOf (Gz1.2.2.2.2 _ rfl hLn) (by omega) (Gz1.2.1.at (by omega) d2) lt2 (by omega) hS) (by omega) rfl rfl (Nat.le_of_ble_eq_true rfl) ⟨by omega, by first | omega | (simp only [List.length_cons, List.length_nil]; omega)⟩ dX3_rule_12 (fun r2 s2 q2 => ?_)
  obtain ⟨rfl, z2, L2, F2⟩ := q2
  refine x_stk (st' := [.ref ((2000 + (c + 1))), .ref ((2000 + c)), .ref ((2000 + c))]) rfl ?_
  refine x_aload_n dX3_rule_15 rfl ?_
  refine x_get (v := .int (nI l)) f_X3_41 (F2.at (by omega) (Gz1.2.1.at (by omega) d0)) rfl dX3_rule_16 ?_
  refine x_aload_n dX3_rule_19 rfl ?_
  refine x_get (v := .int (nI j)) f_X3_44 (F2.at (by omega) (Gz1.2.1.at (by omega) d0)) rfl dX3_rule_20 ?_
  refine x_callI m_X4_init l_X3_61 (c_ruleInit2 L2 (by omega) (F2.at (by omega) Gz1.1) z2 (by rw [List.length_map]; omega) (by omega) (by omega) (by omega)) (by omega) rfl rfl (Nat.le_of_ble_eq_true rfl) ⟨by omega, by first | omega | (simp only [List.length_cons, List.length_nil]; omega)⟩ dX3_rule_23 (fun r3 s3 q3 => ?_)
  obtain ⟨rfl, y3, z3, L3, F3⟩ := q3
  refine x_stk (st' := [.ref ((2000 + c))]) rfl ?_
  exact x_aret ⟨by omega, by first | omega | (simp only [List.length_cons, List.length_nil]; omega)⟩ rfl (Or.inl ⟨_, rfl⟩) dX3_rule_26 ⟨rfl, y3, (F3.at (by omega) z2), by rw [List.length_map] at z3; exact z3, L3, (((Fr.rf.tr (Gz1.2.1.mono (fun i hi => by omega))).tr (F2.mono (fun i hi => by omega))).tr (F3.mono (fun i hi => by omega)))⟩
