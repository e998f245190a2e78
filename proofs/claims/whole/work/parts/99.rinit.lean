/-! the reference is made -/
def s8 (T : List Int32) (x : Nat) (c0 c1 c2 c3 c4 c5 c6 c7 : Int32) : List Int32 := (((((((T.set x c0).set (x + 1) c1).set (x + 2) c2).set (x + 3) c3).set (x + 4) c4).set (x + 5) c5).set (x + 6) c6).set (x + 7) c7
theorem s8_len {T : List Int32} {x : Nat} {c0 c1 c2 c3 c4 c5 c6 c7 : Int32} : (s8 T x c0 c1 c2 c3 c4 c5 c6 c7).length = T.length := by simp only [s8, List.length_set]
set_option maxHeartbeats 4000000 in
theorem r_spell {σ : ZS} {b x : Nat} {v0 v2 v3 v4 v5 v6 v7 v8 v9 v10 v11 v12 v13 v14 v15 v16 v17 v18 v19 v20 v21 v22 v23 v24 v25 v26 v27 v28 v29 v30 v31 v32 v33 v34 v35 v36 v37 v38 v39 v40 v41 v42 v43 v44 v45 v46 v47 v48 v49 v50 v51 : Value} {T : List Int32} {c0 c1 c2 c3 c4 c5 c6 c7 : Int32} (hLn : Ln σ 40 b 0) (hT : T.length = 960) (hx : x + 8 ≤ 960) (g0 : zg σ 1000 = some (.inr (.inr (7, [v0, .ref 1001, v2, v3, v4, v5, v6, v7, v8, v9, v10, v11, v12, v13, v14, v15, v16, v17, v18, v19, v20, v21, v22, v23, v24, v25, v26, v27, v28, v29, v30, v31, v32, v33, v34, v35, v36, v37, v38, v39, v40, v41, v42, v43, v44, v45, v46, v47, v48, v49, v50, v51])))) (g1 : zg σ 1001 = some (.inl (0, T))) : Cn 0 M_X8_spell 0 0 [.ref 1000, .int (nI x), .int c0, .int c1, .int c2, .int c3, .int c4, .int c5, .int c6, .int c7] σ (fun r9 σ' => r9 = none ∧ zg σ' 1001 = some (.inl (0, s8 T x c0 c1 c2 c3 c4 c5 c6 c7)) ∧ Ln σ' 40 b 0 ∧ Fr (fun i => i = 1001) σ σ') := by
  refine Cn.intro (lv0 := [some (.ref 1000), some (.int (nI x)), some (.int c0), some (.int c1), some (.int c2), some (.int c3), some (.int c4), some (.int c5), some (.int c6), some (.int c7)]) rfl (Nat.le_of_ble_eq_true rfl) rfl (fun d hd => ?_)
  refine x_aload_n dX8_spell_0 rfl ?_
  refine x_get (v := .ref 1001) f_X8_13 g0 rfl dX8_spell_1 ?_
  refine x_iload_n dX8_spell_4 rfl ?_
  refine x_iload_n dX8_spell_5 rfl ?_
  refine x_iastG (n := x) g1 rfl (by first | omega | (simp only [List.length_set]; omega)) dX8_spell_6 (fun sw1 gw1 Fw1 Lw1 => ?_)
  refine x_aload_n dX8_spell_7 rfl ?_
  refine x_get (v := .ref 1001) f_X8_13 (Fw1.at (by omega) g0) rfl dX8_spell_8 ?_
  refine x_iload_n dX8_spell_11 rfl ?_
  refine x_iconst (v := nI 1) dX8_spell_12 (by decide) ?_
  refine x_iaddN dX8_spell_13 ?_
  refine x_iload_n dX8_spell_14 rfl ?_
  refine x_iastG (n := x + 1) gw1 rfl (by first | omega | (simp only [List.length_set]; omega)) dX8_spell_15 (fun sw2 gw2 Fw2 Lw2 => ?_)
  refine x_aload_n dX8_spell_16 rfl ?_
  refine x_get (v := .ref 1001) f_X8_13 (Fw2.at (by omega) (Fw1.at (by omega) g0)) rfl dX8_spell_17 ?_
  refine x_iload_n dX8_spell_20 rfl ?_
  refine x_iconst (v := nI 2) dX8_spell_21 (by decide) ?_
  refine x_iaddN dX8_spell_22 ?_
  refine x_iload dX8_spell_23 rfl ?_
  refine x_iastG (n := x + 2) gw2 rfl (by first | omega | (simp only [List.length_set]; omega)) dX8_spell_25 (fun sw3 gw3 Fw3 Lw3 => ?_)
  refine x_aload_n dX8_spell_26 rfl ?_
  refine x_get (v := .ref 1001) f_X8_13 (Fw3.at (by omega) (Fw2.at (by omega) (Fw1.at (by omega) g0))) rfl dX8_spell_27 ?_
  refine x_iload_n dX8_spell_30 rfl ?_
  refine x_iconst (v := nI 3) dX8_spell_31 (by decide) ?_
  refine x_iaddN dX8_spell_32 ?_
  refine x_iload dX8_spell_33 rfl ?_
  refine x_iastG (n := x + 3) gw3 rfl (by first | omega | (simp only [List.length_set]; omega)) dX8_spell_35 (fun sw4 gw4 Fw4 Lw4 => ?_)
  refine x_aload_n dX8_spell_36 rfl ?_
  refine x_get (v := .ref 1001) f_X8_13 (Fw4.at (by omega) (Fw3.at (by omega) (Fw2.at (by omega) (Fw1.at (by omega) g0)))) rfl dX8_spell_37 ?_
  refine x_iload_n dX8_spell_40 rfl ?_
  refine x_iconst (v := nI 4) dX8_spell_41 (by decide) ?_
  refine x_iaddN dX8_spell_42 ?_
  refine x_iload dX8_spell_43 rfl ?_
  refine x_iastG (n := x + 4) gw4 rfl (by first | omega | (simp only [List.length_set]; omega)) dX8_spell_45 (fun sw5 gw5 Fw5 Lw5 => ?_)
  refine x_aload_n dX8_spell_46 rfl ?_
  refine x_get (v := .ref 1001) f_X8_13 (Fw5.at (by omega) (Fw4.at (by omega) (Fw3.at (by omega) (Fw2.at (by omega) (Fw1.at (by omega) g0))))) rfl dX8_spell_47 ?_
  refine x_iload_n dX8_spell_50 rfl ?_
  refine x_iconst (v := nI 5) dX8_spell_51 (by decide) ?_
  refine x_iaddN dX8_spell_52 ?_
  refine x_iload dX8_spell_53 rfl ?_
  refine x_iastG (n := x + 5) gw5 rfl (by first | omega | (simp only [List.length_set]; omega)) dX8_spell_55 (fun sw6 gw6 Fw6 Lw6 => ?_)
  refine x_aload_n dX8_spell_56 rfl ?_
  refine x_get (v := .ref 1001) f_X8_13 (Fw6.at (by omega) (Fw5.at (by omega) (Fw4.at (by omega) (Fw3.at (by omega) (Fw2.at (by omega) (Fw1.at (by omega) g0)))))) rfl dX8_spell_57 ?_
  refine x_iload_n dX8_spell_60 rfl ?_
  refine x_bipush (v := nI 6) dX8_spell_61 (by decide) ?_
  refine x_iaddN dX8_spell_63 ?_
  refine x_iload dX8_spell_64 rfl ?_
  refine x_iastG (n := x + 6) gw6 rfl (by first | omega | (simp only [List.length_set]; omega)) dX8_spell_66 (fun sw7 gw7 Fw7 Lw7 => ?_)
  refine x_aload_n dX8_spell_67 rfl ?_
  refine x_get (v := .ref 1001) f_X8_13 (Fw7.at (by omega) (Fw6.at (by omega) (Fw5.at (by omega) (Fw4.at (by omega) (Fw3.at (by omega) (Fw2.at (by omega) (Fw1.at (by omega) g0))))))) rfl dX8_spell_68 ?_
  refine x_iload_n dX8_spell_71 rfl ?_
  refine x_bipush (v := nI 7) dX8_spell_72 (by decide) ?_
  refine x_iaddN dX8_spell_74 ?_
  refine x_iload dX8_spell_75 rfl ?_
  refine x_iastG (n := x + 7) gw7 rfl (by first | omega | (simp only [List.length_set]; omega)) dX8_spell_77 (fun sw8 gw8 Fw8 Lw8 => ?_)
  exact x_vret ⟨by omega, by first | omega | (simp only [List.length_cons, List.length_nil]; omega)⟩ rfl dX8_spell_78 ⟨rfl, gw8, (Lw8 _ _ _ (Lw7 _ _ _ (Lw6 _ _ _ (Lw5 _ _ _ (Lw4 _ _ _ (Lw3 _ _ _ (Lw2 _ _ _ (Lw1 _ _ _ hLn)))))))), ((((((((Fr.rf.tr (Fw1.mono (fun i hi => by omega))).tr (Fw2.mono (fun i hi => by omega))).tr (Fw3.mono (fun i hi => by omega))).tr (Fw4.mono (fun i hi => by omega))).tr (Fw5.mono (fun i hi => by omega))).tr (Fw6.mono (fun i hi => by omega))).tr (Fw7.mono (fun i hi => by omega))).tr (Fw8.mono (fun i hi => by omega)))⟩
def L0S : List Nat := [102, 111, 114, 103, 105, 118, 101, 115, 32, 53, 32, 59, 32, 108, 101, 110, 100, 115, 32, 50, 32, 59, 32, 106, 111, 121, 115, 32, 49, 32, 59, 32]
def aI (k : Nat) : Int32 := if k = 3 ∨ k = 7 then nI 1 else if k = 14 ∨ k = 44 then -1 else 0
/-- the rows as they are made: the texts T, the sizes -/
def bI0 (T : List Int32) (j : Nat) : List Int32 := if j = 0 then T else if j = 1 then (List.replicate 6 0).set 0 (nI 32) else List.replicate (rlen.getD j 0) 0
theorem L0_text : pText L0S = .inr ([5, 2, 1], 1, 2) := by decide +kernel
theorem s8_out {T : List Int32} {x i : Nat} {c0 c1 c2 c3 c4 c5 c6 c7 : Int32} (h : i < x ∨ x + 8 ≤ i) : (s8 T x c0 c1 c2 c3 c4 c5 c6 c7).getD i 0 = T.getD i 0 := by
  have g : ∀ {l : List Int32} {k : Nat} {v : Int32}, k ≠ i → (l.set k v).getD i 0 = l.getD i 0 := fun {l k v} hk => by
    rw [List.getD_eq_getElem?_getD, List.getElem?_set_ne hk, List.getD_eq_getElem?_getD]
  rw [s8, g (by omega), g (by omega), g (by omega), g (by omega), g (by omega), g (by omega), g (by omega), g (by omega)]
theorem s8_in {T : List Int32} {x : Nat} {c0 c1 c2 c3 c4 c5 c6 c7 : Int32} (h : x + 8 ≤ T.length) : ∀ i, i < 8 → (s8 T x c0 c1 c2 c3 c4 c5 c6 c7).getD (x + i) 0 = [c0, c1, c2, c3, c4, c5, c6, c7].getD i 0 := by
  intro i hi
  have g : ∀ {l : List Int32} {k j : Nat} {v : Int32}, k ≠ j → (l.set k v).getD j 0 = l.getD j 0 := fun {l k j v} hk => by
    rw [List.getD_eq_getElem?_getD, List.getElem?_set_ne hk, List.getD_eq_getElem?_getD]
  rw [s8]
  rcases (show i = 0 ∨ i = 1 ∨ i = 2 ∨ i = 3 ∨ i = 4 ∨ i = 5 ∨ i = 6 ∨ i = 7 by omega) with rfl | rfl | rfl | rfl | rfl | rfl | rfl | rfl
  · rw [g (by omega), g (by omega), g (by omega), g (by omega), g (by omega), g (by omega), g (by omega), gset (by omega), if_pos (by omega)]; rfl
  · rw [g (by omega), g (by omega), g (by omega), g (by omega), g (by omega), g (by omega), gset (by simp only [List.length_set]; omega), if_pos (by omega)]; rfl
  · rw [g (by omega), g (by omega), g (by omega), g (by omega), g (by omega), gset (by simp only [List.length_set]; omega), if_pos (by omega)]; rfl
  · rw [g (by omega), g (by omega), g (by omega), g (by omega), gset (by simp only [List.length_set]; omega), if_pos (by omega)]; rfl
  · rw [g (by omega), g (by omega), g (by omega), gset (by simp only [List.length_set]; omega), if_pos (by omega)]; rfl
  · rw [g (by omega), g (by omega), gset (by simp only [List.length_set]; omega), if_pos (by omega)]; rfl
  · rw [g (by omega), gset (by simp only [List.length_set]; omega), if_pos (by omega)]; rfl
  · rw [gset (by simp only [List.length_set]; omega), if_pos (by omega)]; rfl
def txAll (T : List Int32) : Prop := ∀ i, i < 32 → T.getD i 0 = nI (L0S.getD i 0)
theorem txL : ∀ i, i < 8 → [nI 102, nI 111, nI 114, nI 103, nI 105, nI 118, nI 101, nI 115].getD i 0 = nI (L0S.getD i 0) ∧ [nI 32, nI 53, nI 32, nI 59, nI 32, nI 108, nI 101, nI 110].getD i 0 = nI (L0S.getD (8 + i) 0) ∧ [nI 100, nI 115, nI 32, nI 50, nI 32, nI 59, nI 32, nI 106].getD i 0 = nI (L0S.getD (16 + i) 0) ∧ [nI 111, nI 121, nI 115, nI 32, nI 49, nI 32, nI 59, nI 32].getD i 0 = nI (L0S.getD (24 + i) 0) := by decide +kernel
theorem s8_all {A B C E : List Int32} (h1 : A = s8 (List.replicate 960 0) 0 (nI 102) (nI 111) (nI 114) (nI 103) (nI 105) (nI 118) (nI 101) (nI 115)) (h2 : B = s8 A 8 (nI 32) (nI 53) (nI 32) (nI 59) (nI 32) (nI 108) (nI 101) (nI 110)) (h3 : C = s8 B 16 (nI 100) (nI 115) (nI 32) (nI 50) (nI 32) (nI 59) (nI 32) (nI 106)) (h4 : E = s8 C 24 (nI 111) (nI 121) (nI 115) (nI 32) (nI 49) (nI 32) (nI 59) (nI 32)) : txAll E := by
  have l1 : A.length = 960 := by rw [h1, s8_len]; exact List.length_replicate
  have l2 : B.length = 960 := by rw [h2, s8_len]; exact l1
  have l3 : C.length = 960 := by rw [h3, s8_len]; exact l2
  intro i hi
  by_cases c1 : i < 8
  · rw [h4, s8_out (by omega), h3, s8_out (by omega), h2, s8_out (by omega), h1]
    have h := s8_in (T := List.replicate 960 0) (x := 0) (c0 := nI 102) (c1 := nI 111) (c2 := nI 114) (c3 := nI 103) (c4 := nI 105) (c5 := nI 118) (c6 := nI 101) (c7 := nI 115) (by rw [List.length_replicate]; omega) i c1
    rw [Nat.zero_add] at h
    rw [h]
    exact (txL i c1).1
  · by_cases c2 : i < 16
    · obtain ⟨j, rfl⟩ : ∃ j, i = 8 + j := ⟨i - 8, by omega⟩
      rw [h4, s8_out (by omega), h3, s8_out (by omega), h2, s8_in (by omega) j (by omega)]
      exact (txL j (by omega)).2.1
    · by_cases c3 : i < 24
      · obtain ⟨j, rfl⟩ : ∃ j, i = 16 + j := ⟨i - 16, by omega⟩
        rw [h4, s8_out (by omega), h3, s8_in (by omega) j (by omega)]
        exact (txL j (by omega)).2.2.1
      · obtain ⟨j, rfl⟩ : ∃ j, i = 24 + j := ⟨i - 24, by omega⟩
        rw [h4, s8_in (by omega) j (by omega)]
        exact (txL j (by omega)).2.2.2
theorem T0_ok {T : List Int32} (h : txAll T) : txAll T := h
set_option maxHeartbeats 4000000 in
theorem r_init {σ : ZS} (hLn : Ln σ 40 1 0) (g0 : zg σ 1000 = some (.inr (.inr (7, [.int 0, .null, .null, .int 0, .int 0, .null, .int 0, .int 0, .int 0, .null, .null, .null, .null, .int 0, .int 0, .int 0, .int 0, .int 0, .int 0, .int 0, .int 0, .int 0, .int 0, .int 0, .int 0, .int 0, .long 0, .int 0, .int 0, .int 0, .null, .int 0, .null, .int 0, .int 0, .int 0, .int 0, .int 0, .int 0, .int 0, .null, .null, .null, .null, .int 0, .int 0, .int 0, .int 0, .null, .null, .null, .null])))) : Cn 2 M_X8_init 17 1600 [.ref 1000] σ (fun r9 σ' => r9 = none ∧ ∃ T : List Int32, RM σ σ' aI 0 (bI0 T) ∧ Ln σ' 40 18 0 ∧ txAll T) := by
  refine Cn.intro (lv0 := [some (.ref 1000)]) rfl (Nat.le_of_ble_eq_true rfl) rfl (fun d hd => ?_)
  refine x_aload_n dX8_init_0 rfl ?_
  refine x_objInit l_X8_7 w_oi w_oc (by omega) (Nat.le_of_ble_eq_true rfl) dX8_init_1 ?_
  refine x_aload_n dX8_init_4 rfl ?_
  refine x_sipush (v := nI 960) dX8_init_5 (by decide) ?_
  refine x_newIG (n := 960) (kr := 1) (r := 1001) w_ai rfl (by omega) (hLn.zq1 (by omega)) hLn.zn1 (by omega) (by omega) dX8_init_8 (fun sw1 Gz1 => ?_)
  refine x_putFG f_X8_13 rfl (Gz1.2.1.at (by omega) g0) (Nat.le_of_ble_eq_true rfl) (fun c => ⟨rfl, rfl⟩) dX8_init_10 (fun sw2 gw2 Fw2 Lw2 => ?_)
  refine x_aload_n dX8_init_13 rfl ?_
  refine x_bipush (v := nI 6) dX8_init_14 (by decide) ?_
  refine x_newIG (n := 6) (kr := 1) (r := 1002) w_ai rfl (by omega) ((Lw2 _ _ _ (Gz1.2.2.2.1 _ rfl hLn)).zq1 (by omega)) (Lw2 _ _ _ (Gz1.2.2.2.1 _ rfl hLn)).zn1 (by omega) (by omega) dX8_init_16 (fun sw3 Gz3 => ?_)
  refine x_putFG f_X8_17 rfl (Gz3.2.1.at (by omega) gw2) (Nat.le_of_ble_eq_true rfl) (fun c => ⟨rfl, rfl⟩) dX8_init_18 (fun sw4 gw4 Fw4 Lw4 => ?_)
  refine x_aload_n dX8_init_21 rfl ?_
  refine x_sipush (v := nI 160) dX8_init_22 (by decide) ?_
  refine x_newIG (n := 160) (kr := 1) (r := 1003) w_ai rfl (by omega) ((Lw4 _ _ _ (Gz3.2.2.2.1 _ rfl (Lw2 _ _ _ (Gz1.2.2.2.1 _ rfl hLn)))).zq1 (by omega)) (Lw4 _ _ _ (Gz3.2.2.2.1 _ rfl (Lw2 _ _ _ (Gz1.2.2.2.1 _ rfl hLn)))).zn1 (by omega) (by omega) dX8_init_25 (fun sw5 Gz5 => ?_)
  refine x_putFG f_X8_20 rfl (Gz5.2.1.at (by omega) gw4) (Nat.le_of_ble_eq_true rfl) (fun c => ⟨rfl, rfl⟩) dX8_init_27 (fun sw6 gw6 Fw6 Lw6 => ?_)
  refine x_aload_n dX8_init_30 rfl ?_
  refine x_iconst (v := nI 1) dX8_init_31 (by decide) ?_
  refine x_putG f_X8_23 gw6 (Nat.le_of_ble_eq_true rfl) (fun c => ⟨rfl, rfl⟩) dX8_init_32 (fun sw7 gw7 Fw7 Lw7 => ?_)
  refine x_aload_n dX8_init_35 rfl ?_
  refine x_bipush (v := nI 7) dX8_init_36 (by decide) ?_
  refine x_newIG (n := 7) (kr := 1) (r := 1004) w_ai rfl (by omega) ((Lw7 _ _ _ (Lw6 _ _ _ (Gz5.2.2.2.1 _ rfl (Lw4 _ _ _ (Gz3.2.2.2.1 _ rfl (Lw2 _ _ _ (Gz1.2.2.2.1 _ rfl hLn))))))).zq1 (by omega)) (Lw7 _ _ _ (Lw6 _ _ _ (Gz5.2.2.2.1 _ rfl (Lw4 _ _ _ (Gz3.2.2.2.1 _ rfl (Lw2 _ _ _ (Gz1.2.2.2.1 _ rfl hLn))))))).zn1 (by omega) (by omega) dX8_init_38 (fun sw8 Gz8 => ?_)
  refine x_putFG f_X8_26 rfl (Gz8.2.1.at (by omega) gw7) (Nat.le_of_ble_eq_true rfl) (fun c => ⟨rfl, rfl⟩) dX8_init_40 (fun sw9 gw9 Fw9 Lw9 => ?_)
  refine x_aload_n dX8_init_43 rfl ?_
  refine x_bipush (v := nI 7) dX8_init_44 (by decide) ?_
  refine x_newIG (n := 7) (kr := 1) (r := 1005) w_ai rfl (by omega) ((Lw9 _ _ _ (Gz8.2.2.2.1 _ rfl (Lw7 _ _ _ (Lw6 _ _ _ (Gz5.2.2.2.1 _ rfl (Lw4 _ _ _ (Gz3.2.2.2.1 _ rfl (Lw2 _ _ _ (Gz1.2.2.2.1 _ rfl hLn))))))))).zq1 (by omega)) (Lw9 _ _ _ (Gz8.2.2.2.1 _ rfl (Lw7 _ _ _ (Lw6 _ _ _ (Gz5.2.2.2.1 _ rfl (Lw4 _ _ _ (Gz3.2.2.2.1 _ rfl (Lw2 _ _ _ (Gz1.2.2.2.1 _ rfl hLn))))))))).zn1 (by omega) (by omega) dX8_init_46 (fun sw10 Gz10 => ?_)
  refine x_putFG f_X8_29 rfl (Gz10.2.1.at (by omega) gw9) (Nat.le_of_ble_eq_true rfl) (fun c => ⟨rfl, rfl⟩) dX8_init_48 (fun sw11 gw11 Fw11 Lw11 => ?_)
  refine x_aload_n dX8_init_51 rfl ?_
  refine x_bipush (v := nI 7) dX8_init_52 (by decide) ?_
  refine x_newIG (n := 7) (kr := 1) (r := 1006) w_ai rfl (by omega) ((Lw11 _ _ _ (Gz10.2.2.2.1 _ rfl (Lw9 _ _ _ (Gz8.2.2.2.1 _ rfl (Lw7 _ _ _ (Lw6 _ _ _ (Gz5.2.2.2.1 _ rfl (Lw4 _ _ _ (Gz3.2.2.2.1 _ rfl (Lw2 _ _ _ (Gz1.2.2.2.1 _ rfl hLn))))))))))).zq1 (by omega)) (Lw11 _ _ _ (Gz10.2.2.2.1 _ rfl (Lw9 _ _ _ (Gz8.2.2.2.1 _ rfl (Lw7 _ _ _ (Lw6 _ _ _ (Gz5.2.2.2.1 _ rfl (Lw4 _ _ _ (Gz3.2.2.2.1 _ rfl (Lw2 _ _ _ (Gz1.2.2.2.1 _ rfl hLn))))))))))).zn1 (by omega) (by omega) dX8_init_54 (fun sw12 Gz12 => ?_)
  refine x_putFG f_X8_32 rfl (Gz12.2.1.at (by omega) gw11) (Nat.le_of_ble_eq_true rfl) (fun c => ⟨rfl, rfl⟩) dX8_init_56 (fun sw13 gw13 Fw13 Lw13 => ?_)
  refine x_aload_n dX8_init_59 rfl ?_
  refine x_bipush (v := nI 49) dX8_init_60 (by decide) ?_
  refine x_newIG (n := 49) (kr := 1) (r := 1007) w_ai rfl (by omega) ((Lw13 _ _ _ (Gz12.2.2.2.1 _ rfl (Lw11 _ _ _ (Gz10.2.2.2.1 _ rfl (Lw9 _ _ _ (Gz8.2.2.2.1 _ rfl (Lw7 _ _ _ (Lw6 _ _ _ (Gz5.2.2.2.1 _ rfl (Lw4 _ _ _ (Gz3.2.2.2.1 _ rfl (Lw2 _ _ _ (Gz1.2.2.2.1 _ rfl hLn))))))))))))).zq1 (by omega)) (Lw13 _ _ _ (Gz12.2.2.2.1 _ rfl (Lw11 _ _ _ (Gz10.2.2.2.1 _ rfl (Lw9 _ _ _ (Gz8.2.2.2.1 _ rfl (Lw7 _ _ _ (Lw6 _ _ _ (Gz5.2.2.2.1 _ rfl (Lw4 _ _ _ (Gz3.2.2.2.1 _ rfl (Lw2 _ _ _ (Gz1.2.2.2.1 _ rfl hLn))))))))))))).zn1 (by omega) (by omega) dX8_init_62 (fun sw14 Gz14 => ?_)
  refine x_putFG f_X8_35 rfl (Gz14.2.1.at (by omega) gw13) (Nat.le_of_ble_eq_true rfl) (fun c => ⟨rfl, rfl⟩) dX8_init_64 (fun sw15 gw15 Fw15 Lw15 => ?_)
  refine x_aload_n dX8_init_67 rfl ?_
  refine x_iconst (v := (-1)) dX8_init_68 (by decide) ?_
  refine x_putG f_X8_38 gw15 (Nat.le_of_ble_eq_true rfl) (fun c => ⟨rfl, rfl⟩) dX8_init_69 (fun sw16 gw16 Fw16 Lw16 => ?_)
  refine x_aload_n dX8_init_72 rfl ?_
  refine x_bipush (v := nI 7) dX8_init_73 (by decide) ?_
  refine x_newIG (n := 7) (kr := 1) (r := 1008) w_ai rfl (by omega) ((Lw16 _ _ _ (Lw15 _ _ _ (Gz14.2.2.2.1 _ rfl (Lw13 _ _ _ (Gz12.2.2.2.1 _ rfl (Lw11 _ _ _ (Gz10.2.2.2.1 _ rfl (Lw9 _ _ _ (Gz8.2.2.2.1 _ rfl (Lw7 _ _ _ (Lw6 _ _ _ (Gz5.2.2.2.1 _ rfl (Lw4 _ _ _ (Gz3.2.2.2.1 _ rfl (Lw2 _ _ _ (Gz1.2.2.2.1 _ rfl hLn)))))))))))))))).zq1 (by omega)) (Lw16 _ _ _ (Lw15 _ _ _ (Gz14.2.2.2.1 _ rfl (Lw13 _ _ _ (Gz12.2.2.2.1 _ rfl (Lw11 _ _ _ (Gz10.2.2.2.1 _ rfl (Lw9 _ _ _ (Gz8.2.2.2.1 _ rfl (Lw7 _ _ _ (Lw6 _ _ _ (Gz5.2.2.2.1 _ rfl (Lw4 _ _ _ (Gz3.2.2.2.1 _ rfl (Lw2 _ _ _ (Gz1.2.2.2.1 _ rfl hLn)))))))))))))))).zn1 (by omega) (by omega) dX8_init_75 (fun sw17 Gz17 => ?_)
  refine x_putFG f_X8_41 rfl (Gz17.2.1.at (by omega) gw16) (Nat.le_of_ble_eq_true rfl) (fun c => ⟨rfl, rfl⟩) dX8_init_77 (fun sw18 gw18 Fw18 Lw18 => ?_)
  refine x_aload_n dX8_init_80 rfl ?_
  refine x_bipush (v := nI 49) dX8_init_81 (by decide) ?_
  refine x_newIG (n := 49) (kr := 1) (r := 1009) w_ai rfl (by omega) ((Lw18 _ _ _ (Gz17.2.2.2.1 _ rfl (Lw16 _ _ _ (Lw15 _ _ _ (Gz14.2.2.2.1 _ rfl (Lw13 _ _ _ (Gz12.2.2.2.1 _ rfl (Lw11 _ _ _ (Gz10.2.2.2.1 _ rfl (Lw9 _ _ _ (Gz8.2.2.2.1 _ rfl (Lw7 _ _ _ (Lw6 _ _ _ (Gz5.2.2.2.1 _ rfl (Lw4 _ _ _ (Gz3.2.2.2.1 _ rfl (Lw2 _ _ _ (Gz1.2.2.2.1 _ rfl hLn)))))))))))))))))).zq1 (by omega)) (Lw18 _ _ _ (Gz17.2.2.2.1 _ rfl (Lw16 _ _ _ (Lw15 _ _ _ (Gz14.2.2.2.1 _ rfl (Lw13 _ _ _ (Gz12.2.2.2.1 _ rfl (Lw11 _ _ _ (Gz10.2.2.2.1 _ rfl (Lw9 _ _ _ (Gz8.2.2.2.1 _ rfl (Lw7 _ _ _ (Lw6 _ _ _ (Gz5.2.2.2.1 _ rfl (Lw4 _ _ _ (Gz3.2.2.2.1 _ rfl (Lw2 _ _ _ (Gz1.2.2.2.1 _ rfl hLn)))))))))))))))))).zn1 (by omega) (by omega) dX8_init_83 (fun sw19 Gz19 => ?_)
  refine x_putFG f_X8_44 rfl (Gz19.2.1.at (by omega) gw18) (Nat.le_of_ble_eq_true rfl) (fun c => ⟨rfl, rfl⟩) dX8_init_85 (fun sw20 gw20 Fw20 Lw20 => ?_)
  refine x_aload_n dX8_init_88 rfl ?_
  refine x_bipush (v := nI 49) dX8_init_89 (by decide) ?_
  refine x_newIG (n := 49) (kr := 1) (r := 1010) w_ai rfl (by omega) ((Lw20 _ _ _ (Gz19.2.2.2.1 _ rfl (Lw18 _ _ _ (Gz17.2.2.2.1 _ rfl (Lw16 _ _ _ (Lw15 _ _ _ (Gz14.2.2.2.1 _ rfl (Lw13 _ _ _ (Gz12.2.2.2.1 _ rfl (Lw11 _ _ _ (Gz10.2.2.2.1 _ rfl (Lw9 _ _ _ (Gz8.2.2.2.1 _ rfl (Lw7 _ _ _ (Lw6 _ _ _ (Gz5.2.2.2.1 _ rfl (Lw4 _ _ _ (Gz3.2.2.2.1 _ rfl (Lw2 _ _ _ (Gz1.2.2.2.1 _ rfl hLn)))))))))))))))))))).zq1 (by omega)) (Lw20 _ _ _ (Gz19.2.2.2.1 _ rfl (Lw18 _ _ _ (Gz17.2.2.2.1 _ rfl (Lw16 _ _ _ (Lw15 _ _ _ (Gz14.2.2.2.1 _ rfl (Lw13 _ _ _ (Gz12.2.2.2.1 _ rfl (Lw11 _ _ _ (Gz10.2.2.2.1 _ rfl (Lw9 _ _ _ (Gz8.2.2.2.1 _ rfl (Lw7 _ _ _ (Lw6 _ _ _ (Gz5.2.2.2.1 _ rfl (Lw4 _ _ _ (Gz3.2.2.2.1 _ rfl (Lw2 _ _ _ (Gz1.2.2.2.1 _ rfl hLn)))))))))))))))))))).zn1 (by omega) (by omega) dX8_init_91 (fun sw21 Gz21 => ?_)
  refine x_putFG f_X8_47 rfl (Gz21.2.1.at (by omega) gw20) (Nat.le_of_ble_eq_true rfl) (fun c => ⟨rfl, rfl⟩) dX8_init_93 (fun sw22 gw22 Fw22 Lw22 => ?_)
  refine x_aload_n dX8_init_96 rfl ?_
  refine x_bipush (v := nI 7) dX8_init_97 (by decide) ?_
  refine x_newIG (n := 7) (kr := 1) (r := 1011) w_ai rfl (by omega) ((Lw22 _ _ _ (Gz21.2.2.2.1 _ rfl (Lw20 _ _ _ (Gz19.2.2.2.1 _ rfl (Lw18 _ _ _ (Gz17.2.2.2.1 _ rfl (Lw16 _ _ _ (Lw15 _ _ _ (Gz14.2.2.2.1 _ rfl (Lw13 _ _ _ (Gz12.2.2.2.1 _ rfl (Lw11 _ _ _ (Gz10.2.2.2.1 _ rfl (Lw9 _ _ _ (Gz8.2.2.2.1 _ rfl (Lw7 _ _ _ (Lw6 _ _ _ (Gz5.2.2.2.1 _ rfl (Lw4 _ _ _ (Gz3.2.2.2.1 _ rfl (Lw2 _ _ _ (Gz1.2.2.2.1 _ rfl hLn)))))))))))))))))))))).zq1 (by omega)) (Lw22 _ _ _ (Gz21.2.2.2.1 _ rfl (Lw20 _ _ _ (Gz19.2.2.2.1 _ rfl (Lw18 _ _ _ (Gz17.2.2.2.1 _ rfl (Lw16 _ _ _ (Lw15 _ _ _ (Gz14.2.2.2.1 _ rfl (Lw13 _ _ _ (Gz12.2.2.2.1 _ rfl (Lw11 _ _ _ (Gz10.2.2.2.1 _ rfl (Lw9 _ _ _ (Gz8.2.2.2.1 _ rfl (Lw7 _ _ _ (Lw6 _ _ _ (Gz5.2.2.2.1 _ rfl (Lw4 _ _ _ (Gz3.2.2.2.1 _ rfl (Lw2 _ _ _ (Gz1.2.2.2.1 _ rfl hLn)))))))))))))))))))))).zn1 (by omega) (by omega) dX8_init_99 (fun sw23 Gz23 => ?_)
  refine x_putFG f_X8_50 rfl (Gz23.2.1.at (by omega) gw22) (Nat.le_of_ble_eq_true rfl) (fun c => ⟨rfl, rfl⟩) dX8_init_101 (fun sw24 gw24 Fw24 Lw24 => ?_)
  refine x_aload_n dX8_init_104 rfl ?_
  refine x_bipush (v := nI 7) dX8_init_105 (by decide) ?_
  refine x_newIG (n := 7) (kr := 1) (r := 1012) w_ai rfl (by omega) ((Lw24 _ _ _ (Gz23.2.2.2.1 _ rfl (Lw22 _ _ _ (Gz21.2.2.2.1 _ rfl (Lw20 _ _ _ (Gz19.2.2.2.1 _ rfl (Lw18 _ _ _ (Gz17.2.2.2.1 _ rfl (Lw16 _ _ _ (Lw15 _ _ _ (Gz14.2.2.2.1 _ rfl (Lw13 _ _ _ (Gz12.2.2.2.1 _ rfl (Lw11 _ _ _ (Gz10.2.2.2.1 _ rfl (Lw9 _ _ _ (Gz8.2.2.2.1 _ rfl (Lw7 _ _ _ (Lw6 _ _ _ (Gz5.2.2.2.1 _ rfl (Lw4 _ _ _ (Gz3.2.2.2.1 _ rfl (Lw2 _ _ _ (Gz1.2.2.2.1 _ rfl hLn)))))))))))))))))))))))).zq1 (by omega)) (Lw24 _ _ _ (Gz23.2.2.2.1 _ rfl (Lw22 _ _ _ (Gz21.2.2.2.1 _ rfl (Lw20 _ _ _ (Gz19.2.2.2.1 _ rfl (Lw18 _ _ _ (Gz17.2.2.2.1 _ rfl (Lw16 _ _ _ (Lw15 _ _ _ (Gz14.2.2.2.1 _ rfl (Lw13 _ _ _ (Gz12.2.2.2.1 _ rfl (Lw11 _ _ _ (Gz10.2.2.2.1 _ rfl (Lw9 _ _ _ (Gz8.2.2.2.1 _ rfl (Lw7 _ _ _ (Lw6 _ _ _ (Gz5.2.2.2.1 _ rfl (Lw4 _ _ _ (Gz3.2.2.2.1 _ rfl (Lw2 _ _ _ (Gz1.2.2.2.1 _ rfl hLn)))))))))))))))))))))))).zn1 (by omega) (by omega) dX8_init_107 (fun sw25 Gz25 => ?_)
  refine x_putFG f_X8_53 rfl (Gz25.2.1.at (by omega) gw24) (Nat.le_of_ble_eq_true rfl) (fun c => ⟨rfl, rfl⟩) dX8_init_109 (fun sw26 gw26 Fw26 Lw26 => ?_)
  refine x_aload_n dX8_init_112 rfl ?_
  refine x_bipush (v := nI 49) dX8_init_113 (by decide) ?_
  refine x_newIG (n := 49) (kr := 1) (r := 1013) w_ai rfl (by omega) ((Lw26 _ _ _ (Gz25.2.2.2.1 _ rfl (Lw24 _ _ _ (Gz23.2.2.2.1 _ rfl (Lw22 _ _ _ (Gz21.2.2.2.1 _ rfl (Lw20 _ _ _ (Gz19.2.2.2.1 _ rfl (Lw18 _ _ _ (Gz17.2.2.2.1 _ rfl (Lw16 _ _ _ (Lw15 _ _ _ (Gz14.2.2.2.1 _ rfl (Lw13 _ _ _ (Gz12.2.2.2.1 _ rfl (Lw11 _ _ _ (Gz10.2.2.2.1 _ rfl (Lw9 _ _ _ (Gz8.2.2.2.1 _ rfl (Lw7 _ _ _ (Lw6 _ _ _ (Gz5.2.2.2.1 _ rfl (Lw4 _ _ _ (Gz3.2.2.2.1 _ rfl (Lw2 _ _ _ (Gz1.2.2.2.1 _ rfl hLn)))))))))))))))))))))))))).zq1 (by omega)) (Lw26 _ _ _ (Gz25.2.2.2.1 _ rfl (Lw24 _ _ _ (Gz23.2.2.2.1 _ rfl (Lw22 _ _ _ (Gz21.2.2.2.1 _ rfl (Lw20 _ _ _ (Gz19.2.2.2.1 _ rfl (Lw18 _ _ _ (Gz17.2.2.2.1 _ rfl (Lw16 _ _ _ (Lw15 _ _ _ (Gz14.2.2.2.1 _ rfl (Lw13 _ _ _ (Gz12.2.2.2.1 _ rfl (Lw11 _ _ _ (Gz10.2.2.2.1 _ rfl (Lw9 _ _ _ (Gz8.2.2.2.1 _ rfl (Lw7 _ _ _ (Lw6 _ _ _ (Gz5.2.2.2.1 _ rfl (Lw4 _ _ _ (Gz3.2.2.2.1 _ rfl (Lw2 _ _ _ (Gz1.2.2.2.1 _ rfl hLn)))))))))))))))))))))))))).zn1 (by omega) (by omega) dX8_init_115 (fun sw27 Gz27 => ?_)
  refine x_putFG f_X8_56 rfl (Gz27.2.1.at (by omega) gw26) (Nat.le_of_ble_eq_true rfl) (fun c => ⟨rfl, rfl⟩) dX8_init_117 (fun sw28 gw28 Fw28 Lw28 => ?_)
  refine x_aload_n dX8_init_120 rfl ?_
  refine x_iconst (v := (-1)) dX8_init_121 (by decide) ?_
  refine x_putG f_X8_59 gw28 (Nat.le_of_ble_eq_true rfl) (fun c => ⟨rfl, rfl⟩) dX8_init_122 (fun sw29 gw29 Fw29 Lw29 => ?_)
  refine x_aload_n dX8_init_125 rfl ?_
  refine x_iconst (v := nI 4) dX8_init_126 (by decide) ?_
  refine x_newZG (n := 4) (kr := 1) (r := 1014) w_az rfl (by omega) ((Lw29 _ _ _ (Lw28 _ _ _ (Gz27.2.2.2.1 _ rfl (Lw26 _ _ _ (Gz25.2.2.2.1 _ rfl (Lw24 _ _ _ (Gz23.2.2.2.1 _ rfl (Lw22 _ _ _ (Gz21.2.2.2.1 _ rfl (Lw20 _ _ _ (Gz19.2.2.2.1 _ rfl (Lw18 _ _ _ (Gz17.2.2.2.1 _ rfl (Lw16 _ _ _ (Lw15 _ _ _ (Gz14.2.2.2.1 _ rfl (Lw13 _ _ _ (Gz12.2.2.2.1 _ rfl (Lw11 _ _ _ (Gz10.2.2.2.1 _ rfl (Lw9 _ _ _ (Gz8.2.2.2.1 _ rfl (Lw7 _ _ _ (Lw6 _ _ _ (Gz5.2.2.2.1 _ rfl (Lw4 _ _ _ (Gz3.2.2.2.1 _ rfl (Lw2 _ _ _ (Gz1.2.2.2.1 _ rfl hLn))))))))))))))))))))))))))))).zq1 (by omega)) (Lw29 _ _ _ (Lw28 _ _ _ (Gz27.2.2.2.1 _ rfl (Lw26 _ _ _ (Gz25.2.2.2.1 _ rfl (Lw24 _ _ _ (Gz23.2.2.2.1 _ rfl (Lw22 _ _ _ (Gz21.2.2.2.1 _ rfl (Lw20 _ _ _ (Gz19.2.2.2.1 _ rfl (Lw18 _ _ _ (Gz17.2.2.2.1 _ rfl (Lw16 _ _ _ (Lw15 _ _ _ (Gz14.2.2.2.1 _ rfl (Lw13 _ _ _ (Gz12.2.2.2.1 _ rfl (Lw11 _ _ _ (Gz10.2.2.2.1 _ rfl (Lw9 _ _ _ (Gz8.2.2.2.1 _ rfl (Lw7 _ _ _ (Lw6 _ _ _ (Gz5.2.2.2.1 _ rfl (Lw4 _ _ _ (Gz3.2.2.2.1 _ rfl (Lw2 _ _ _ (Gz1.2.2.2.1 _ rfl hLn))))))))))))))))))))))))))))).zn1 (by omega) (by omega) dX8_init_127 (fun sw30 Gz30 => ?_)
  refine x_putFG f_X8_62 rfl (Gz30.2.1.at (by omega) gw29) (Nat.le_of_ble_eq_true rfl) (fun c => ⟨rfl, rfl⟩) dX8_init_129 (fun sw31 gw31 Fw31 Lw31 => ?_)
  refine x_aload_n dX8_init_132 rfl ?_
  refine x_iconst (v := nI 4) dX8_init_133 (by decide) ?_
  refine x_newIG (n := 4) (kr := 1) (r := 1015) w_ai rfl (by omega) ((Lw31 _ _ _ (Gz30.2.2.2.1 _ rfl (Lw29 _ _ _ (Lw28 _ _ _ (Gz27.2.2.2.1 _ rfl (Lw26 _ _ _ (Gz25.2.2.2.1 _ rfl (Lw24 _ _ _ (Gz23.2.2.2.1 _ rfl (Lw22 _ _ _ (Gz21.2.2.2.1 _ rfl (Lw20 _ _ _ (Gz19.2.2.2.1 _ rfl (Lw18 _ _ _ (Gz17.2.2.2.1 _ rfl (Lw16 _ _ _ (Lw15 _ _ _ (Gz14.2.2.2.1 _ rfl (Lw13 _ _ _ (Gz12.2.2.2.1 _ rfl (Lw11 _ _ _ (Gz10.2.2.2.1 _ rfl (Lw9 _ _ _ (Gz8.2.2.2.1 _ rfl (Lw7 _ _ _ (Lw6 _ _ _ (Gz5.2.2.2.1 _ rfl (Lw4 _ _ _ (Gz3.2.2.2.1 _ rfl (Lw2 _ _ _ (Gz1.2.2.2.1 _ rfl hLn))))))))))))))))))))))))))))))).zq1 (by omega)) (Lw31 _ _ _ (Gz30.2.2.2.1 _ rfl (Lw29 _ _ _ (Lw28 _ _ _ (Gz27.2.2.2.1 _ rfl (Lw26 _ _ _ (Gz25.2.2.2.1 _ rfl (Lw24 _ _ _ (Gz23.2.2.2.1 _ rfl (Lw22 _ _ _ (Gz21.2.2.2.1 _ rfl (Lw20 _ _ _ (Gz19.2.2.2.1 _ rfl (Lw18 _ _ _ (Gz17.2.2.2.1 _ rfl (Lw16 _ _ _ (Lw15 _ _ _ (Gz14.2.2.2.1 _ rfl (Lw13 _ _ _ (Gz12.2.2.2.1 _ rfl (Lw11 _ _ _ (Gz10.2.2.2.1 _ rfl (Lw9 _ _ _ (Gz8.2.2.2.1 _ rfl (Lw7 _ _ _ (Lw6 _ _ _ (Gz5.2.2.2.1 _ rfl (Lw4 _ _ _ (Gz3.2.2.2.1 _ rfl (Lw2 _ _ _ (Gz1.2.2.2.1 _ rfl hLn))))))))))))))))))))))))))))))).zn1 (by omega) (by omega) dX8_init_134 (fun sw32 Gz32 => ?_)
  refine x_putFG f_X8_66 rfl (Gz32.2.1.at (by omega) gw31) (Nat.le_of_ble_eq_true rfl) (fun c => ⟨rfl, rfl⟩) dX8_init_136 (fun sw33 gw33 Fw33 Lw33 => ?_)
  refine x_aload_n dX8_init_139 rfl ?_
  refine x_iconst (v := nI 4) dX8_init_140 (by decide) ?_
  refine x_newIG (n := 4) (kr := 1) (r := 1016) w_ai rfl (by omega) ((Lw33 _ _ _ (Gz32.2.2.2.1 _ rfl (Lw31 _ _ _ (Gz30.2.2.2.1 _ rfl (Lw29 _ _ _ (Lw28 _ _ _ (Gz27.2.2.2.1 _ rfl (Lw26 _ _ _ (Gz25.2.2.2.1 _ rfl (Lw24 _ _ _ (Gz23.2.2.2.1 _ rfl (Lw22 _ _ _ (Gz21.2.2.2.1 _ rfl (Lw20 _ _ _ (Gz19.2.2.2.1 _ rfl (Lw18 _ _ _ (Gz17.2.2.2.1 _ rfl (Lw16 _ _ _ (Lw15 _ _ _ (Gz14.2.2.2.1 _ rfl (Lw13 _ _ _ (Gz12.2.2.2.1 _ rfl (Lw11 _ _ _ (Gz10.2.2.2.1 _ rfl (Lw9 _ _ _ (Gz8.2.2.2.1 _ rfl (Lw7 _ _ _ (Lw6 _ _ _ (Gz5.2.2.2.1 _ rfl (Lw4 _ _ _ (Gz3.2.2.2.1 _ rfl (Lw2 _ _ _ (Gz1.2.2.2.1 _ rfl hLn))))))))))))))))))))))))))))))))).zq1 (by omega)) (Lw33 _ _ _ (Gz32.2.2.2.1 _ rfl (Lw31 _ _ _ (Gz30.2.2.2.1 _ rfl (Lw29 _ _ _ (Lw28 _ _ _ (Gz27.2.2.2.1 _ rfl (Lw26 _ _ _ (Gz25.2.2.2.1 _ rfl (Lw24 _ _ _ (Gz23.2.2.2.1 _ rfl (Lw22 _ _ _ (Gz21.2.2.2.1 _ rfl (Lw20 _ _ _ (Gz19.2.2.2.1 _ rfl (Lw18 _ _ _ (Gz17.2.2.2.1 _ rfl (Lw16 _ _ _ (Lw15 _ _ _ (Gz14.2.2.2.1 _ rfl (Lw13 _ _ _ (Gz12.2.2.2.1 _ rfl (Lw11 _ _ _ (Gz10.2.2.2.1 _ rfl (Lw9 _ _ _ (Gz8.2.2.2.1 _ rfl (Lw7 _ _ _ (Lw6 _ _ _ (Gz5.2.2.2.1 _ rfl (Lw4 _ _ _ (Gz3.2.2.2.1 _ rfl (Lw2 _ _ _ (Gz1.2.2.2.1 _ rfl hLn))))))))))))))))))))))))))))))))).zn1 (by omega) (by omega) dX8_init_141 (fun sw34 Gz34 => ?_)
  refine x_putFG f_X8_69 rfl (Gz34.2.1.at (by omega) gw33) (Nat.le_of_ble_eq_true rfl) (fun c => ⟨rfl, rfl⟩) dX8_init_143 (fun sw35 gw35 Fw35 Lw35 => ?_)
  refine x_aload_n dX8_init_146 rfl ?_
  refine x_sipush (v := nI 160) dX8_init_147 (by decide) ?_
  refine x_newIG (n := 160) (kr := 1) (r := 1017) w_ai rfl (by omega) ((Lw35 _ _ _ (Gz34.2.2.2.1 _ rfl (Lw33 _ _ _ (Gz32.2.2.2.1 _ rfl (Lw31 _ _ _ (Gz30.2.2.2.1 _ rfl (Lw29 _ _ _ (Lw28 _ _ _ (Gz27.2.2.2.1 _ rfl (Lw26 _ _ _ (Gz25.2.2.2.1 _ rfl (Lw24 _ _ _ (Gz23.2.2.2.1 _ rfl (Lw22 _ _ _ (Gz21.2.2.2.1 _ rfl (Lw20 _ _ _ (Gz19.2.2.2.1 _ rfl (Lw18 _ _ _ (Gz17.2.2.2.1 _ rfl (Lw16 _ _ _ (Lw15 _ _ _ (Gz14.2.2.2.1 _ rfl (Lw13 _ _ _ (Gz12.2.2.2.1 _ rfl (Lw11 _ _ _ (Gz10.2.2.2.1 _ rfl (Lw9 _ _ _ (Gz8.2.2.2.1 _ rfl (Lw7 _ _ _ (Lw6 _ _ _ (Gz5.2.2.2.1 _ rfl (Lw4 _ _ _ (Gz3.2.2.2.1 _ rfl (Lw2 _ _ _ (Gz1.2.2.2.1 _ rfl hLn))))))))))))))))))))))))))))))))))).zq1 (by omega)) (Lw35 _ _ _ (Gz34.2.2.2.1 _ rfl (Lw33 _ _ _ (Gz32.2.2.2.1 _ rfl (Lw31 _ _ _ (Gz30.2.2.2.1 _ rfl (Lw29 _ _ _ (Lw28 _ _ _ (Gz27.2.2.2.1 _ rfl (Lw26 _ _ _ (Gz25.2.2.2.1 _ rfl (Lw24 _ _ _ (Gz23.2.2.2.1 _ rfl (Lw22 _ _ _ (Gz21.2.2.2.1 _ rfl (Lw20 _ _ _ (Gz19.2.2.2.1 _ rfl (Lw18 _ _ _ (Gz17.2.2.2.1 _ rfl (Lw16 _ _ _ (Lw15 _ _ _ (Gz14.2.2.2.1 _ rfl (Lw13 _ _ _ (Gz12.2.2.2.1 _ rfl (Lw11 _ _ _ (Gz10.2.2.2.1 _ rfl (Lw9 _ _ _ (Gz8.2.2.2.1 _ rfl (Lw7 _ _ _ (Lw6 _ _ _ (Gz5.2.2.2.1 _ rfl (Lw4 _ _ _ (Gz3.2.2.2.1 _ rfl (Lw2 _ _ _ (Gz1.2.2.2.1 _ rfl hLn))))))))))))))))))))))))))))))))))).zn1 (by omega) (by omega) dX8_init_150 (fun sw36 Gz36 => ?_)
  refine x_putFG f_X8_72 rfl (Gz36.2.1.at (by omega) gw35) (Nat.le_of_ble_eq_true rfl) (fun c => ⟨rfl, rfl⟩) dX8_init_152 (fun sw37 gw37 Fw37 Lw37 => ?_)
  refine x_aload_n dX8_init_155 rfl ?_
  refine x_iconst (v := nI 0) dX8_init_156 (by decide) ?_
  refine x_bipush (v := nI 102) dX8_init_157 (by decide) ?_
  refine x_bipush (v := nI 111) dX8_init_159 (by decide) ?_
  refine x_bipush (v := nI 114) dX8_init_161 (by decide) ?_
  refine x_bipush (v := nI 103) dX8_init_163 (by decide) ?_
  refine x_bipush (v := nI 105) dX8_init_165 (by decide) ?_
  refine x_bipush (v := nI 118) dX8_init_167 (by decide) ?_
  refine x_bipush (v := nI 101) dX8_init_169 (by decide) ?_
  refine x_bipush (v := nI 115) dX8_init_171 (by decide) ?_
  refine x_callV m_X8_spell l_X8_75 (r_spell (Lw37 _ _ _ (Gz36.2.2.2.1 _ rfl (Lw35 _ _ _ (Gz34.2.2.2.1 _ rfl (Lw33 _ _ _ (Gz32.2.2.2.1 _ rfl (Lw31 _ _ _ (Gz30.2.2.2.1 _ rfl (Lw29 _ _ _ (Lw28 _ _ _ (Gz27.2.2.2.1 _ rfl (Lw26 _ _ _ (Gz25.2.2.2.1 _ rfl (Lw24 _ _ _ (Gz23.2.2.2.1 _ rfl (Lw22 _ _ _ (Gz21.2.2.2.1 _ rfl (Lw20 _ _ _ (Gz19.2.2.2.1 _ rfl (Lw18 _ _ _ (Gz17.2.2.2.1 _ rfl (Lw16 _ _ _ (Lw15 _ _ _ (Gz14.2.2.2.1 _ rfl (Lw13 _ _ _ (Gz12.2.2.2.1 _ rfl (Lw11 _ _ _ (Gz10.2.2.2.1 _ rfl (Lw9 _ _ _ (Gz8.2.2.2.1 _ rfl (Lw7 _ _ _ (Lw6 _ _ _ (Gz5.2.2.2.1 _ rfl (Lw4 _ _ _ (Gz3.2.2.2.1 _ rfl (Lw2 _ _ _ (Gz1.2.2.2.1 _ rfl hLn))))))))))))))))))))))))))))))))))))) (x := 0) (by first | exact List.length_replicate | assumption) (by omega) gw37 (Fw37.at (by omega) (Gz36.2.1.at (by omega) (Fw35.at (by omega) (Gz34.2.1.at (by omega) (Fw33.at (by omega) (Gz32.2.1.at (by omega) (Fw31.at (by omega) (Gz30.2.1.at (by omega) (Fw29.at (by omega) (Fw28.at (by omega) (Gz27.2.1.at (by omega) (Fw26.at (by omega) (Gz25.2.1.at (by omega) (Fw24.at (by omega) (Gz23.2.1.at (by omega) (Fw22.at (by omega) (Gz21.2.1.at (by omega) (Fw20.at (by omega) (Gz19.2.1.at (by omega) (Fw18.at (by omega) (Gz17.2.1.at (by omega) (Fw16.at (by omega) (Fw15.at (by omega) (Gz14.2.1.at (by omega) (Fw13.at (by omega) (Gz12.2.1.at (by omega) (Fw11.at (by omega) (Gz10.2.1.at (by omega) (Fw9.at (by omega) (Gz8.2.1.at (by omega) (Fw7.at (by omega) (Fw6.at (by omega) (Gz5.2.1.at (by omega) (Fw4.at (by omega) (Gz3.2.1.at (by omega) (Fw2.at (by omega) Gz1.1))))))))))))))))))))))))))))))))))))) rfl gw37 (by omega) rfl rfl (Nat.le_of_ble_eq_true rfl) ⟨by omega, by first | omega | (simp only [List.length_cons, List.length_nil]; omega)⟩ dX8_init_173 (fun r38 s38 q38 => ?_)
  obtain ⟨rfl, z038, L38, F38⟩ := q38
  obtain ⟨T38, hT38⟩ : ∃ z, z = s8 ((List.replicate 960 0)) 0 (nI 102) (nI 111) (nI 114) (nI 103) (nI 105) (nI 118) (nI 101) (nI 115) := ⟨_, rfl⟩
  rw [← hT38] at z038
  have z38 := z038
  have l38 : T38.length = 960 := by rw [hT38, s8_len]; first | assumption | exact List.length_replicate
  refine x_stk (st' := []) rfl ?_
  refine x_aload_n dX8_init_176 rfl ?_
  refine x_bipush (v := nI 8) dX8_init_177 (by decide) ?_
  refine x_bipush (v := nI 32) dX8_init_179 (by decide) ?_
  refine x_bipush (v := nI 53) dX8_init_181 (by decide) ?_
  refine x_bipush (v := nI 32) dX8_init_183 (by decide) ?_
  refine x_bipush (v := nI 59) dX8_init_185 (by decide) ?_
  refine x_bipush (v := nI 32) dX8_init_187 (by decide) ?_
  refine x_bipush (v := nI 108) dX8_init_189 (by decide) ?_
  refine x_bipush (v := nI 101) dX8_init_191 (by decide) ?_
  refine x_bipush (v := nI 110) dX8_init_193 (by decide) ?_
  refine x_callV m_X8_spell l_X8_75 (r_spell L38 (x := 8) (by first | exact List.length_replicate | assumption) (by omega) (F38.at (by omega) gw37) z38) rfl (F38.at (by omega) gw37) (by omega) rfl rfl (Nat.le_of_ble_eq_true rfl) ⟨by omega, by first | omega | (simp only [List.length_cons, List.length_nil]; omega)⟩ dX8_init_195 (fun r39 s39 q39 => ?_)
  obtain ⟨rfl, z039, L39, F39⟩ := q39
  obtain ⟨T39, hT39⟩ : ∃ z, z = s8 T38 8 (nI 32) (nI 53) (nI 32) (nI 59) (nI 32) (nI 108) (nI 101) (nI 110) := ⟨_, rfl⟩
  rw [← hT39] at z039
  have z39 := z039
  have l39 : T39.length = 960 := by rw [hT39, s8_len]; first | assumption | exact List.length_replicate
  refine x_stk (st' := []) rfl ?_
  refine x_aload_n dX8_init_198 rfl ?_
  refine x_bipush (v := nI 16) dX8_init_199 (by decide) ?_
  refine x_bipush (v := nI 100) dX8_init_201 (by decide) ?_
  refine x_bipush (v := nI 115) dX8_init_203 (by decide) ?_
  refine x_bipush (v := nI 32) dX8_init_205 (by decide) ?_
  refine x_bipush (v := nI 50) dX8_init_207 (by decide) ?_
  refine x_bipush (v := nI 32) dX8_init_209 (by decide) ?_
  refine x_bipush (v := nI 59) dX8_init_211 (by decide) ?_
  refine x_bipush (v := nI 32) dX8_init_213 (by decide) ?_
  refine x_bipush (v := nI 106) dX8_init_215 (by decide) ?_
  refine x_callV m_X8_spell l_X8_75 (r_spell L39 (x := 16) (by first | exact List.length_replicate | assumption) (by omega) (F39.at (by omega) (F38.at (by omega) gw37)) z39) rfl (F39.at (by omega) (F38.at (by omega) gw37)) (by omega) rfl rfl (Nat.le_of_ble_eq_true rfl) ⟨by omega, by first | omega | (simp only [List.length_cons, List.length_nil]; omega)⟩ dX8_init_217 (fun r40 s40 q40 => ?_)
  obtain ⟨rfl, z040, L40, F40⟩ := q40
  obtain ⟨T40, hT40⟩ : ∃ z, z = s8 T39 16 (nI 100) (nI 115) (nI 32) (nI 50) (nI 32) (nI 59) (nI 32) (nI 106) := ⟨_, rfl⟩
  rw [← hT40] at z040
  have z40 := z040
  have l40 : T40.length = 960 := by rw [hT40, s8_len]; first | assumption | exact List.length_replicate
  refine x_stk (st' := []) rfl ?_
  refine x_aload_n dX8_init_220 rfl ?_
  refine x_bipush (v := nI 24) dX8_init_221 (by decide) ?_
  refine x_bipush (v := nI 111) dX8_init_223 (by decide) ?_
  refine x_bipush (v := nI 121) dX8_init_225 (by decide) ?_
  refine x_bipush (v := nI 115) dX8_init_227 (by decide) ?_
  refine x_bipush (v := nI 32) dX8_init_229 (by decide) ?_
  refine x_bipush (v := nI 49) dX8_init_231 (by decide) ?_
  refine x_bipush (v := nI 32) dX8_init_233 (by decide) ?_
  refine x_bipush (v := nI 59) dX8_init_235 (by decide) ?_
  refine x_bipush (v := nI 32) dX8_init_237 (by decide) ?_
  refine x_callV m_X8_spell l_X8_75 (r_spell L40 (x := 24) (by first | exact List.length_replicate | assumption) (by omega) (F40.at (by omega) (F39.at (by omega) (F38.at (by omega) gw37))) z40) rfl (F40.at (by omega) (F39.at (by omega) (F38.at (by omega) gw37))) (by omega) rfl rfl (Nat.le_of_ble_eq_true rfl) ⟨by omega, by first | omega | (simp only [List.length_cons, List.length_nil]; omega)⟩ dX8_init_239 (fun r41 s41 q41 => ?_)
  obtain ⟨rfl, z041, L41, F41⟩ := q41
  obtain ⟨T41, hT41⟩ : ∃ z, z = s8 T40 24 (nI 111) (nI 121) (nI 115) (nI 32) (nI 49) (nI 32) (nI 59) (nI 32) := ⟨_, rfl⟩
  rw [← hT41] at z041
  have z41 := z041
  have l41 : T41.length = 960 := by rw [hT41, s8_len]; first | assumption | exact List.length_replicate
  refine x_stk (st' := []) rfl ?_
  refine x_aload_n dX8_init_242 rfl ?_
  refine x_get (v := .ref 1002) f_X8_17 (F41.at (by omega) (F40.at (by omega) (F39.at (by omega) (F38.at (by omega) gw37)))) rfl dX8_init_243 ?_
  refine x_iconst (v := nI 0) dX8_init_246 (by decide) ?_
  refine x_bipush (v := nI 32) dX8_init_247 (by decide) ?_
  refine x_iastG (n := 0) (F41.at (by omega) (F40.at (by omega) (F39.at (by omega) (F38.at (by omega) (Fw37.at (by omega) (Gz36.2.1.at (by omega) (Fw35.at (by omega) (Gz34.2.1.at (by omega) (Fw33.at (by omega) (Gz32.2.1.at (by omega) (Fw31.at (by omega) (Gz30.2.1.at (by omega) (Fw29.at (by omega) (Fw28.at (by omega) (Gz27.2.1.at (by omega) (Fw26.at (by omega) (Gz25.2.1.at (by omega) (Fw24.at (by omega) (Gz23.2.1.at (by omega) (Fw22.at (by omega) (Gz21.2.1.at (by omega) (Fw20.at (by omega) (Gz19.2.1.at (by omega) (Fw18.at (by omega) (Gz17.2.1.at (by omega) (Fw16.at (by omega) (Fw15.at (by omega) (Gz14.2.1.at (by omega) (Fw13.at (by omega) (Gz12.2.1.at (by omega) (Fw11.at (by omega) (Gz10.2.1.at (by omega) (Fw9.at (by omega) (Gz8.2.1.at (by omega) (Fw7.at (by omega) (Fw6.at (by omega) (Gz5.2.1.at (by omega) (Fw4.at (by omega) Gz3.1)))))))))))))))))))))))))))))))))))))) rfl (by rw [List.length_replicate]; omega) dX8_init_249 (fun sw42 gw42 Fw42 Lw42 => ?_)
  refine x_aload_n dX8_init_250 rfl ?_
  refine x_iconst (v := nI 1) dX8_init_251 (by decide) ?_
  refine x_putG f_X8_79 (Fw42.at (by omega) (F41.at (by omega) (F40.at (by omega) (F39.at (by omega) (F38.at (by omega) gw37))))) (Nat.le_of_ble_eq_true rfl) (fun c => ⟨rfl, rfl⟩) dX8_init_252 (fun sw43 gw43 Fw43 Lw43 => ?_)
  exact x_vret ⟨by omega, by first | omega | (simp only [List.length_cons, List.length_nil]; omega)⟩ rfl dX8_init_255 ⟨rfl, T41, ⟨(((((((((((((((((((((((((((((((((((((((((((Fr.rf.tr (Gz1.2.1.mono (fun i hi => by omega))).tr (Fw2.mono (fun i hi => by omega))).tr (Gz3.2.1.mono (fun i hi => by omega))).tr (Fw4.mono (fun i hi => by omega))).tr (Gz5.2.1.mono (fun i hi => by omega))).tr (Fw6.mono (fun i hi => by omega))).tr (Fw7.mono (fun i hi => by omega))).tr (Gz8.2.1.mono (fun i hi => by omega))).tr (Fw9.mono (fun i hi => by omega))).tr (Gz10.2.1.mono (fun i hi => by omega))).tr (Fw11.mono (fun i hi => by omega))).tr (Gz12.2.1.mono (fun i hi => by omega))).tr (Fw13.mono (fun i hi => by omega))).tr (Gz14.2.1.mono (fun i hi => by omega))).tr (Fw15.mono (fun i hi => by omega))).tr (Fw16.mono (fun i hi => by omega))).tr (Gz17.2.1.mono (fun i hi => by omega))).tr (Fw18.mono (fun i hi => by omega))).tr (Gz19.2.1.mono (fun i hi => by omega))).tr (Fw20.mono (fun i hi => by omega))).tr (Gz21.2.1.mono (fun i hi => by omega))).tr (Fw22.mono (fun i hi => by omega))).tr (Gz23.2.1.mono (fun i hi => by omega))).tr (Fw24.mono (fun i hi => by omega))).tr (Gz25.2.1.mono (fun i hi => by omega))).tr (Fw26.mono (fun i hi => by omega))).tr (Gz27.2.1.mono (fun i hi => by omega))).tr (Fw28.mono (fun i hi => by omega))).tr (Fw29.mono (fun i hi => by omega))).tr (Gz30.2.1.mono (fun i hi => by omega))).tr (Fw31.mono (fun i hi => by omega))).tr (Gz32.2.1.mono (fun i hi => by omega))).tr (Fw33.mono (fun i hi => by omega))).tr (Gz34.2.1.mono (fun i hi => by omega))).tr (Fw35.mono (fun i hi => by omega))).tr (Gz36.2.1.mono (fun i hi => by omega))).tr (Fw37.mono (fun i hi => by omega))).tr (F38.mono (fun i hi => by omega))).tr (F39.mono (fun i hi => by omega))).tr (F40.mono (fun i hi => by omega))).tr (F41.mono (fun i hi => by omega))).tr (Fw42.mono (fun i hi => by omega))).tr (Fw43.mono (fun i hi => by omega))), gw43, fun j hj => by
    rcases (show j = 0 ∨ j = 1 ∨ j = 2 ∨ j = 3 ∨ j = 4 ∨ j = 5 ∨ j = 6 ∨ j = 7 ∨ j = 8 ∨ j = 9 ∨ j = 10 ∨ j = 11 ∨ j = 12 ∨ j = 13 ∨ j = 14 ∨ j = 15 ∨ j = 16 by omega) with rfl | rfl | rfl | rfl | rfl | rfl | rfl | rfl | rfl | rfl | rfl | rfl | rfl | rfl | rfl | rfl | rfl
    · exact (Fw43.at (by omega) (Fw42.at (by omega) z41))
    · exact (Fw43.at (by omega) gw42)
    · exact (Fw43.at (by omega) (Fw42.at (by omega) (F41.at (by omega) (F40.at (by omega) (F39.at (by omega) (F38.at (by omega) (Fw37.at (by omega) (Gz36.2.1.at (by omega) (Fw35.at (by omega) (Gz34.2.1.at (by omega) (Fw33.at (by omega) (Gz32.2.1.at (by omega) (Fw31.at (by omega) (Gz30.2.1.at (by omega) (Fw29.at (by omega) (Fw28.at (by omega) (Gz27.2.1.at (by omega) (Fw26.at (by omega) (Gz25.2.1.at (by omega) (Fw24.at (by omega) (Gz23.2.1.at (by omega) (Fw22.at (by omega) (Gz21.2.1.at (by omega) (Fw20.at (by omega) (Gz19.2.1.at (by omega) (Fw18.at (by omega) (Gz17.2.1.at (by omega) (Fw16.at (by omega) (Fw15.at (by omega) (Gz14.2.1.at (by omega) (Fw13.at (by omega) (Gz12.2.1.at (by omega) (Fw11.at (by omega) (Gz10.2.1.at (by omega) (Fw9.at (by omega) (Gz8.2.1.at (by omega) (Fw7.at (by omega) (Fw6.at (by omega) Gz5.1))))))))))))))))))))))))))))))))))))))
    · exact (Fw43.at (by omega) (Fw42.at (by omega) (F41.at (by omega) (F40.at (by omega) (F39.at (by omega) (F38.at (by omega) (Fw37.at (by omega) (Gz36.2.1.at (by omega) (Fw35.at (by omega) (Gz34.2.1.at (by omega) (Fw33.at (by omega) (Gz32.2.1.at (by omega) (Fw31.at (by omega) (Gz30.2.1.at (by omega) (Fw29.at (by omega) (Fw28.at (by omega) (Gz27.2.1.at (by omega) (Fw26.at (by omega) (Gz25.2.1.at (by omega) (Fw24.at (by omega) (Gz23.2.1.at (by omega) (Fw22.at (by omega) (Gz21.2.1.at (by omega) (Fw20.at (by omega) (Gz19.2.1.at (by omega) (Fw18.at (by omega) (Gz17.2.1.at (by omega) (Fw16.at (by omega) (Fw15.at (by omega) (Gz14.2.1.at (by omega) (Fw13.at (by omega) (Gz12.2.1.at (by omega) (Fw11.at (by omega) (Gz10.2.1.at (by omega) (Fw9.at (by omega) Gz8.1)))))))))))))))))))))))))))))))))))
    · exact (Fw43.at (by omega) (Fw42.at (by omega) (F41.at (by omega) (F40.at (by omega) (F39.at (by omega) (F38.at (by omega) (Fw37.at (by omega) (Gz36.2.1.at (by omega) (Fw35.at (by omega) (Gz34.2.1.at (by omega) (Fw33.at (by omega) (Gz32.2.1.at (by omega) (Fw31.at (by omega) (Gz30.2.1.at (by omega) (Fw29.at (by omega) (Fw28.at (by omega) (Gz27.2.1.at (by omega) (Fw26.at (by omega) (Gz25.2.1.at (by omega) (Fw24.at (by omega) (Gz23.2.1.at (by omega) (Fw22.at (by omega) (Gz21.2.1.at (by omega) (Fw20.at (by omega) (Gz19.2.1.at (by omega) (Fw18.at (by omega) (Gz17.2.1.at (by omega) (Fw16.at (by omega) (Fw15.at (by omega) (Gz14.2.1.at (by omega) (Fw13.at (by omega) (Gz12.2.1.at (by omega) (Fw11.at (by omega) Gz10.1)))))))))))))))))))))))))))))))))
    · exact (Fw43.at (by omega) (Fw42.at (by omega) (F41.at (by omega) (F40.at (by omega) (F39.at (by omega) (F38.at (by omega) (Fw37.at (by omega) (Gz36.2.1.at (by omega) (Fw35.at (by omega) (Gz34.2.1.at (by omega) (Fw33.at (by omega) (Gz32.2.1.at (by omega) (Fw31.at (by omega) (Gz30.2.1.at (by omega) (Fw29.at (by omega) (Fw28.at (by omega) (Gz27.2.1.at (by omega) (Fw26.at (by omega) (Gz25.2.1.at (by omega) (Fw24.at (by omega) (Gz23.2.1.at (by omega) (Fw22.at (by omega) (Gz21.2.1.at (by omega) (Fw20.at (by omega) (Gz19.2.1.at (by omega) (Fw18.at (by omega) (Gz17.2.1.at (by omega) (Fw16.at (by omega) (Fw15.at (by omega) (Gz14.2.1.at (by omega) (Fw13.at (by omega) Gz12.1)))))))))))))))))))))))))))))))
    · exact (Fw43.at (by omega) (Fw42.at (by omega) (F41.at (by omega) (F40.at (by omega) (F39.at (by omega) (F38.at (by omega) (Fw37.at (by omega) (Gz36.2.1.at (by omega) (Fw35.at (by omega) (Gz34.2.1.at (by omega) (Fw33.at (by omega) (Gz32.2.1.at (by omega) (Fw31.at (by omega) (Gz30.2.1.at (by omega) (Fw29.at (by omega) (Fw28.at (by omega) (Gz27.2.1.at (by omega) (Fw26.at (by omega) (Gz25.2.1.at (by omega) (Fw24.at (by omega) (Gz23.2.1.at (by omega) (Fw22.at (by omega) (Gz21.2.1.at (by omega) (Fw20.at (by omega) (Gz19.2.1.at (by omega) (Fw18.at (by omega) (Gz17.2.1.at (by omega) (Fw16.at (by omega) (Fw15.at (by omega) Gz14.1)))))))))))))))))))))))))))))
    · exact (Fw43.at (by omega) (Fw42.at (by omega) (F41.at (by omega) (F40.at (by omega) (F39.at (by omega) (F38.at (by omega) (Fw37.at (by omega) (Gz36.2.1.at (by omega) (Fw35.at (by omega) (Gz34.2.1.at (by omega) (Fw33.at (by omega) (Gz32.2.1.at (by omega) (Fw31.at (by omega) (Gz30.2.1.at (by omega) (Fw29.at (by omega) (Fw28.at (by omega) (Gz27.2.1.at (by omega) (Fw26.at (by omega) (Gz25.2.1.at (by omega) (Fw24.at (by omega) (Gz23.2.1.at (by omega) (Fw22.at (by omega) (Gz21.2.1.at (by omega) (Fw20.at (by omega) (Gz19.2.1.at (by omega) (Fw18.at (by omega) Gz17.1))))))))))))))))))))))))))
    · exact (Fw43.at (by omega) (Fw42.at (by omega) (F41.at (by omega) (F40.at (by omega) (F39.at (by omega) (F38.at (by omega) (Fw37.at (by omega) (Gz36.2.1.at (by omega) (Fw35.at (by omega) (Gz34.2.1.at (by omega) (Fw33.at (by omega) (Gz32.2.1.at (by omega) (Fw31.at (by omega) (Gz30.2.1.at (by omega) (Fw29.at (by omega) (Fw28.at (by omega) (Gz27.2.1.at (by omega) (Fw26.at (by omega) (Gz25.2.1.at (by omega) (Fw24.at (by omega) (Gz23.2.1.at (by omega) (Fw22.at (by omega) (Gz21.2.1.at (by omega) (Fw20.at (by omega) Gz19.1))))))))))))))))))))))))
    · exact (Fw43.at (by omega) (Fw42.at (by omega) (F41.at (by omega) (F40.at (by omega) (F39.at (by omega) (F38.at (by omega) (Fw37.at (by omega) (Gz36.2.1.at (by omega) (Fw35.at (by omega) (Gz34.2.1.at (by omega) (Fw33.at (by omega) (Gz32.2.1.at (by omega) (Fw31.at (by omega) (Gz30.2.1.at (by omega) (Fw29.at (by omega) (Fw28.at (by omega) (Gz27.2.1.at (by omega) (Fw26.at (by omega) (Gz25.2.1.at (by omega) (Fw24.at (by omega) (Gz23.2.1.at (by omega) (Fw22.at (by omega) Gz21.1))))))))))))))))))))))
    · exact (Fw43.at (by omega) (Fw42.at (by omega) (F41.at (by omega) (F40.at (by omega) (F39.at (by omega) (F38.at (by omega) (Fw37.at (by omega) (Gz36.2.1.at (by omega) (Fw35.at (by omega) (Gz34.2.1.at (by omega) (Fw33.at (by omega) (Gz32.2.1.at (by omega) (Fw31.at (by omega) (Gz30.2.1.at (by omega) (Fw29.at (by omega) (Fw28.at (by omega) (Gz27.2.1.at (by omega) (Fw26.at (by omega) (Gz25.2.1.at (by omega) (Fw24.at (by omega) Gz23.1))))))))))))))))))))
    · exact (Fw43.at (by omega) (Fw42.at (by omega) (F41.at (by omega) (F40.at (by omega) (F39.at (by omega) (F38.at (by omega) (Fw37.at (by omega) (Gz36.2.1.at (by omega) (Fw35.at (by omega) (Gz34.2.1.at (by omega) (Fw33.at (by omega) (Gz32.2.1.at (by omega) (Fw31.at (by omega) (Gz30.2.1.at (by omega) (Fw29.at (by omega) (Fw28.at (by omega) (Gz27.2.1.at (by omega) (Fw26.at (by omega) Gz25.1))))))))))))))))))
    · exact (Fw43.at (by omega) (Fw42.at (by omega) (F41.at (by omega) (F40.at (by omega) (F39.at (by omega) (F38.at (by omega) (Fw37.at (by omega) (Gz36.2.1.at (by omega) (Fw35.at (by omega) (Gz34.2.1.at (by omega) (Fw33.at (by omega) (Gz32.2.1.at (by omega) (Fw31.at (by omega) (Gz30.2.1.at (by omega) (Fw29.at (by omega) (Fw28.at (by omega) Gz27.1))))))))))))))))
    · exact (Fw43.at (by omega) (Fw42.at (by omega) (F41.at (by omega) (F40.at (by omega) (F39.at (by omega) (F38.at (by omega) (Fw37.at (by omega) (Gz36.2.1.at (by omega) (Fw35.at (by omega) (Gz34.2.1.at (by omega) (Fw33.at (by omega) (Gz32.2.1.at (by omega) (Fw31.at (by omega) Gz30.1)))))))))))))
    · exact (Fw43.at (by omega) (Fw42.at (by omega) (F41.at (by omega) (F40.at (by omega) (F39.at (by omega) (F38.at (by omega) (Fw37.at (by omega) (Gz36.2.1.at (by omega) (Fw35.at (by omega) (Gz34.2.1.at (by omega) (Fw33.at (by omega) Gz32.1)))))))))))
    · exact (Fw43.at (by omega) (Fw42.at (by omega) (F41.at (by omega) (F40.at (by omega) (F39.at (by omega) (F38.at (by omega) (Fw37.at (by omega) (Gz36.2.1.at (by omega) (Fw35.at (by omega) Gz34.1)))))))))
    · exact (Fw43.at (by omega) (Fw42.at (by omega) (F41.at (by omega) (F40.at (by omega) (F39.at (by omega) (F38.at (by omega) (Fw37.at (by omega) Gz36.1))))))), fun j hj => by
    rcases (show j = 0 ∨ j = 1 ∨ j = 2 ∨ j = 3 ∨ j = 4 ∨ j = 5 ∨ j = 6 ∨ j = 7 ∨ j = 8 ∨ j = 9 ∨ j = 10 ∨ j = 11 ∨ j = 12 ∨ j = 13 ∨ j = 14 ∨ j = 15 ∨ j = 16 by omega) with rfl | rfl | rfl | rfl | rfl | rfl | rfl | rfl | rfl | rfl | rfl | rfl | rfl | rfl | rfl | rfl | rfl
    · exact l41
    · rfl
    · rfl
    · rfl
    · rfl
    · rfl
    · rfl
    · rfl
    · rfl
    · rfl
    · rfl
    · rfl
    · rfl
    · rfl
    · rfl
    · rfl
    · rfl⟩, (Lw43 _ _ _ (Lw42 _ _ _ L41)), T0_ok (s8_all (hT38) (hT39) (hT40) (hT41))⟩
