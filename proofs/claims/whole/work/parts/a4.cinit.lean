/-! the class is made -/
set_option maxHeartbeats 4000000 in
theorem c_shInit {σ : ZS} {r c : Nat} (hLn : Ln σ c 0 0) (hc : c < 40) (hrc : r ≠ c) (g0 : zg σ r = some (.inr (.inr (5, [.int 0, .int 0, .null])))) : Cn 1 M_X6_init 1 40 [.ref r] σ (fun r9 σ' => r9 = none ∧ zg σ' r = some (.inr (.inr (5, [.int (-1), .int (nI 0), .ref c]))) ∧ zg σ' c = some (.inl (0, List.replicate 40 0)) ∧ Ln σ' (c + 1) 0 0 ∧ Fr (fun i => i = r ∨ i = c) σ σ') := by
  refine Cn.intro (lv0 := [some (.ref r)]) rfl (Nat.le_of_ble_eq_true rfl) rfl (fun d hd => ?_)
  refine x_aload_n dX6_init_0 rfl ?_
  refine x_objInit l_X6_3 w_oi w_oc (by omega) (Nat.le_of_ble_eq_true rfl) dX6_init_1 ?_
  refine x_aload_n dX6_init_4 rfl ?_
  refine x_iconst (v := (-1)) dX6_init_5 (by decide) ?_
  refine x_putG f_X6_9 g0 (Nat.le_of_ble_eq_true rfl) (fun c => ⟨rfl, rfl⟩) dX6_init_6 (fun sw1 gw1 Fw1 Lw1 => ?_)
  refine x_aload_n dX6_init_9 rfl ?_
  refine x_iconst (v := nI 0) dX6_init_10 (by decide) ?_
  refine x_putG f_X6_15 gw1 (Nat.le_of_ble_eq_true rfl) (fun c => ⟨rfl, rfl⟩) dX6_init_11 (fun sw2 gw2 Fw2 Lw2 => ?_)
  refine x_aload_n dX6_init_14 rfl ?_
  refine x_bipush (v := nI 40) dX6_init_15 (by decide) ?_
  refine x_newIG (n := 40) (kr := 0) (r := c) w_ai rfl (by omega) ((Lw2 _ _ _ (Lw1 _ _ _ hLn)).zq0 (by omega)) (Lw2 _ _ _ (Lw1 _ _ _ hLn)).zn0 (by omega) (by first | omega | (simp only [List.length_cons, List.length_nil]; omega)) dX6_init_17 (fun sw3 Gz3 => ?_)
  refine x_putFG f_X6_18 rfl (Gz3.2.1.at (by omega) gw2) (Nat.le_of_ble_eq_true rfl) (fun c => ⟨rfl, rfl⟩) dX6_init_19 (fun sw4 gw4 Fw4 Lw4 => ?_)
  exact x_vret ⟨by omega, by first | omega | (simp only [List.length_cons, List.length_nil]; omega)⟩ rfl dX6_init_22 ⟨rfl, gw4, (Fw4.at (by omega) Gz3.1), (Lw4 _ _ _ (Gz3.2.2.1 _ rfl (Lw2 _ _ _ (Lw1 _ _ _ hLn)))), ((((Fr.rf.tr (Fw1.mono (fun i hi => by omega))).tr (Fw2.mono (fun i hi => by omega))).tr (Gz3.2.1.mono (fun i hi => by omega))).tr (Fw4.mono (fun i hi => by omega)))⟩
theorem rep_getD {n k : Nat} : (List.replicate n 0 : List Nat).getD k 0 = 0 := by
  rw [List.getD_eq_getElem?_getD, List.getElem?_replicate]
  split <;> rfl
set_option maxHeartbeats 4000000 in
theorem c_paInit {σ : ZS} {p : Nat} (hLn : Ln σ (p + 1) 0 0) (hc : p + 5 ≤ 40) (g0 : zg σ p = some (.inr (.inr (1, [.int 0, .int 0, .int 0, .int 0, .null, .null, .null, .null])))) : Cn 1 M_X2_init 4 70 [.ref p] σ (fun r9 σ' => r9 = none ∧ Pa σ' p (nI 1) (nI 0) (nI 0) 0 (List.replicate 7 0) (List.replicate 7 0) (List.replicate 7 0) (List.replicate 49 0) ∧ Ln σ' (p + 5) 0 0 ∧ Fr (fun i => p ≤ i ∧ i ≤ p + 4) σ σ') := by
  refine Cn.intro (lv0 := [some (.ref p)]) rfl (Nat.le_of_ble_eq_true rfl) rfl (fun d hd => ?_)
  refine x_aload_n dX2_init_0 rfl ?_
  refine x_objInit l_X2_3 w_oi w_oc (by omega) (Nat.le_of_ble_eq_true rfl) dX2_init_1 ?_
  refine x_aload_n dX2_init_4 rfl ?_
  refine x_iconst (v := nI 1) dX2_init_5 (by decide) ?_
  refine x_putG f_X2_9 g0 (Nat.le_of_ble_eq_true rfl) (fun c => ⟨rfl, rfl⟩) dX2_init_6 (fun sw1 gw1 Fw1 Lw1 => ?_)
  refine x_aload_n dX2_init_9 rfl ?_
  refine x_iconst (v := nI 0) dX2_init_10 (by decide) ?_
  refine x_putG f_X2_15 gw1 (Nat.le_of_ble_eq_true rfl) (fun c => ⟨rfl, rfl⟩) dX2_init_11 (fun sw2 gw2 Fw2 Lw2 => ?_)
  refine x_aload_n dX2_init_14 rfl ?_
  refine x_iconst (v := nI 0) dX2_init_15 (by decide) ?_
  refine x_putG f_X2_18 gw2 (Nat.le_of_ble_eq_true rfl) (fun c => ⟨rfl, rfl⟩) dX2_init_16 (fun sw3 gw3 Fw3 Lw3 => ?_)
  refine x_aload_n dX2_init_19 rfl ?_
  refine x_iconst (v := nI 0) dX2_init_20 (by decide) ?_
  refine x_putG f_X2_21 gw3 (Nat.le_of_ble_eq_true rfl) (fun c => ⟨rfl, rfl⟩) dX2_init_21 (fun sw4 gw4 Fw4 Lw4 => ?_)
  refine x_aload_n dX2_init_24 rfl ?_
  refine x_bipush (v := nI 7) dX2_init_25 (by decide) ?_
  refine x_newIG (n := 7) (kr := 0) (r := p + 1) w_ai rfl (by omega) ((Lw4 _ _ _ (Lw3 _ _ _ (Lw2 _ _ _ (Lw1 _ _ _ hLn)))).zq0 (by omega)) (Lw4 _ _ _ (Lw3 _ _ _ (Lw2 _ _ _ (Lw1 _ _ _ hLn)))).zn0 (by omega) (by first | omega | (simp only [List.length_cons, List.length_nil]; omega)) dX2_init_27 (fun sw5 Gz5 => ?_)
  refine x_putFG f_X2_24 rfl (Gz5.2.1.at (by omega) gw4) (Nat.le_of_ble_eq_true rfl) (fun c => ⟨rfl, rfl⟩) dX2_init_29 (fun sw6 gw6 Fw6 Lw6 => ?_)
  refine x_aload_n dX2_init_32 rfl ?_
  refine x_bipush (v := nI 7) dX2_init_33 (by decide) ?_
  refine x_newIG (n := 7) (kr := 0) (r := p + 1 + 1) w_ai rfl (by omega) ((Lw6 _ _ _ (Gz5.2.2.1 _ rfl (Lw4 _ _ _ (Lw3 _ _ _ (Lw2 _ _ _ (Lw1 _ _ _ hLn)))))).zq0 (by omega)) (Lw6 _ _ _ (Gz5.2.2.1 _ rfl (Lw4 _ _ _ (Lw3 _ _ _ (Lw2 _ _ _ (Lw1 _ _ _ hLn)))))).zn0 (by omega) (by first | omega | (simp only [List.length_cons, List.length_nil]; omega)) dX2_init_35 (fun sw7 Gz7 => ?_)
  refine x_putFG f_X2_28 rfl (Gz7.2.1.at (by omega) gw6) (Nat.le_of_ble_eq_true rfl) (fun c => ⟨rfl, rfl⟩) dX2_init_37 (fun sw8 gw8 Fw8 Lw8 => ?_)
  refine x_aload_n dX2_init_40 rfl ?_
  refine x_bipush (v := nI 7) dX2_init_41 (by decide) ?_
  refine x_newIG (n := 7) (kr := 0) (r := p + 1 + 1 + 1) w_ai rfl (by omega) ((Lw8 _ _ _ (Gz7.2.2.1 _ rfl (Lw6 _ _ _ (Gz5.2.2.1 _ rfl (Lw4 _ _ _ (Lw3 _ _ _ (Lw2 _ _ _ (Lw1 _ _ _ hLn)))))))).zq0 (by omega)) (Lw8 _ _ _ (Gz7.2.2.1 _ rfl (Lw6 _ _ _ (Gz5.2.2.1 _ rfl (Lw4 _ _ _ (Lw3 _ _ _ (Lw2 _ _ _ (Lw1 _ _ _ hLn)))))))).zn0 (by omega) (by first | omega | (simp only [List.length_cons, List.length_nil]; omega)) dX2_init_43 (fun sw9 Gz9 => ?_)
  refine x_putFG f_X2_31 rfl (Gz9.2.1.at (by omega) gw8) (Nat.le_of_ble_eq_true rfl) (fun c => ⟨rfl, rfl⟩) dX2_init_45 (fun sw10 gw10 Fw10 Lw10 => ?_)
  refine x_aload_n dX2_init_48 rfl ?_
  refine x_bipush (v := nI 49) dX2_init_49 (by decide) ?_
  refine x_newIG (n := 49) (kr := 0) (r := p + 1 + 1 + 1 + 1) w_ai rfl (by omega) ((Lw10 _ _ _ (Gz9.2.2.1 _ rfl (Lw8 _ _ _ (Gz7.2.2.1 _ rfl (Lw6 _ _ _ (Gz5.2.2.1 _ rfl (Lw4 _ _ _ (Lw3 _ _ _ (Lw2 _ _ _ (Lw1 _ _ _ hLn)))))))))).zq0 (by omega)) (Lw10 _ _ _ (Gz9.2.2.1 _ rfl (Lw8 _ _ _ (Gz7.2.2.1 _ rfl (Lw6 _ _ _ (Gz5.2.2.1 _ rfl (Lw4 _ _ _ (Lw3 _ _ _ (Lw2 _ _ _ (Lw1 _ _ _ hLn)))))))))).zn0 (by omega) (by first | omega | (simp only [List.length_cons, List.length_nil]; omega)) dX2_init_51 (fun sw11 Gz11 => ?_)
  refine x_putFG f_X2_34 rfl (Gz11.2.1.at (by omega) gw10) (Nat.le_of_ble_eq_true rfl) (fun c => ⟨rfl, rfl⟩) dX2_init_53 (fun sw12 gw12 Fw12 Lw12 => ?_)
  exact x_vret ⟨by omega, by first | omega | (simp only [List.length_cons, List.length_nil]; omega)⟩ rfl dX2_init_56 ⟨rfl, ⟨gw12, (Fw12.at (by omega) (Gz11.2.1.at (by omega) (Fw10.at (by omega) (Gz9.2.1.at (by omega) (Fw8.at (by omega) (Gz7.2.1.at (by omega) (Fw6.at (by omega) Gz5.1))))))), (Fw12.at (by omega) (Gz11.2.1.at (by omega) (Fw10.at (by omega) (Gz9.2.1.at (by omega) (Fw8.at (by omega) Gz7.1))))), (Fw12.at (by omega) (Gz11.2.1.at (by omega) (Fw10.at (by omega) Gz9.1))), (Fw12.at (by omega) Gz11.1), by omega, by decide, by decide, by decide, by decide, by intro k; rw [rep_getD]; omega, by intro k; rw [rep_getD]; omega, by intro k; rw [rep_getD]; omega⟩, (Lw12 _ _ _ (Gz11.2.2.1 _ rfl (Lw10 _ _ _ (Gz9.2.2.1 _ rfl (Lw8 _ _ _ (Gz7.2.2.1 _ rfl (Lw6 _ _ _ (Gz5.2.2.1 _ rfl (Lw4 _ _ _ (Lw3 _ _ _ (Lw2 _ _ _ (Lw1 _ _ _ hLn)))))))))))), ((((((((((((Fr.rf.tr (Fw1.mono (fun i hi => by omega))).tr (Fw2.mono (fun i hi => by omega))).tr (Fw3.mono (fun i hi => by omega))).tr (Fw4.mono (fun i hi => by omega))).tr (Gz5.2.1.mono (fun i hi => by omega))).tr (Fw6.mono (fun i hi => by omega))).tr (Gz7.2.1.mono (fun i hi => by omega))).tr (Fw8.mono (fun i hi => by omega))).tr (Gz9.2.1.mono (fun i hi => by omega))).tr (Fw10.mono (fun i hi => by omega))).tr (Gz11.2.1.mono (fun i hi => by omega))).tr (Fw12.mono (fun i hi => by omega)))⟩
set_option maxHeartbeats 4000000 in
theorem c_seInit {σ : ZS} (hLn : Ln σ 23 0 0) (g0 : zg σ 22 = some (.inr (.inr (4, [.null, .null, .null, .int 0, .int 0, .int 0, .int 0, .int 0, .int 0, .int 0, .null, .null])))) : Cn 1 M_X5_init 5 373 [.ref 22] σ (fun r9 σ' => r9 = none ∧ Se σ' 0 0 0 0 0 0 0 (List.replicate 7 0) (List.replicate 7 0) (List.replicate 7 0) (List.replicate 343 0) (List.replicate 9 0) ∧ Ln σ' 28 0 0 ∧ Fr (fun i => 22 ≤ i ∧ i ≤ 27) σ σ') := by
  refine Cn.intro (lv0 := [some (.ref 22)]) rfl (Nat.le_of_ble_eq_true rfl) rfl (fun d hd => ?_)
  refine x_aload_n dX5_init_0 rfl ?_
  refine x_objInit l_X5_3 w_oi w_oc (by omega) (Nat.le_of_ble_eq_true rfl) dX5_init_1 ?_
  refine x_aload_n dX5_init_4 rfl ?_
  refine x_bipush (v := nI 7) dX5_init_5 (by decide) ?_
  refine x_newIG (n := 7) (kr := 0) (r := 23) w_ai rfl (by omega) (hLn.zq0 (by omega)) hLn.zn0 (by omega) (by first | omega | (simp only [List.length_cons, List.length_nil]; omega)) dX5_init_7 (fun sw1 Gz1 => ?_)
  refine x_putFG f_X5_9 rfl (Gz1.2.1.at (by omega) g0) (Nat.le_of_ble_eq_true rfl) (fun c => ⟨rfl, rfl⟩) dX5_init_9 (fun sw2 gw2 Fw2 Lw2 => ?_)
  refine x_aload_n dX5_init_12 rfl ?_
  refine x_bipush (v := nI 7) dX5_init_13 (by decide) ?_
  refine x_newIG (n := 7) (kr := 0) (r := 24) w_ai rfl (by omega) ((Lw2 _ _ _ (Gz1.2.2.1 _ rfl hLn)).zq0 (by omega)) (Lw2 _ _ _ (Gz1.2.2.1 _ rfl hLn)).zn0 (by omega) (by first | omega | (simp only [List.length_cons, List.length_nil]; omega)) dX5_init_15 (fun sw3 Gz3 => ?_)
  refine x_putFG f_X5_15 rfl (Gz3.2.1.at (by omega) gw2) (Nat.le_of_ble_eq_true rfl) (fun c => ⟨rfl, rfl⟩) dX5_init_17 (fun sw4 gw4 Fw4 Lw4 => ?_)
  refine x_aload_n dX5_init_20 rfl ?_
  refine x_bipush (v := nI 7) dX5_init_21 (by decide) ?_
  refine x_newIG (n := 7) (kr := 0) (r := 25) w_ai rfl (by omega) ((Lw4 _ _ _ (Gz3.2.2.1 _ rfl (Lw2 _ _ _ (Gz1.2.2.1 _ rfl hLn)))).zq0 (by omega)) (Lw4 _ _ _ (Gz3.2.2.1 _ rfl (Lw2 _ _ _ (Gz1.2.2.1 _ rfl hLn)))).zn0 (by omega) (by first | omega | (simp only [List.length_cons, List.length_nil]; omega)) dX5_init_23 (fun sw5 Gz5 => ?_)
  refine x_putFG f_X5_18 rfl (Gz5.2.1.at (by omega) gw4) (Nat.le_of_ble_eq_true rfl) (fun c => ⟨rfl, rfl⟩) dX5_init_25 (fun sw6 gw6 Fw6 Lw6 => ?_)
  refine x_aload_n dX5_init_28 rfl ?_
  refine x_sipush (v := nI 343) dX5_init_29 (by decide) ?_
  refine x_newIG (n := 343) (kr := 0) (r := 26) w_ai rfl (by omega) ((Lw6 _ _ _ (Gz5.2.2.1 _ rfl (Lw4 _ _ _ (Gz3.2.2.1 _ rfl (Lw2 _ _ _ (Gz1.2.2.1 _ rfl hLn)))))).zq0 (by omega)) (Lw6 _ _ _ (Gz5.2.2.1 _ rfl (Lw4 _ _ _ (Gz3.2.2.1 _ rfl (Lw2 _ _ _ (Gz1.2.2.1 _ rfl hLn)))))).zn0 (by omega) (by first | omega | (simp only [List.length_cons, List.length_nil]; omega)) dX5_init_32 (fun sw7 Gz7 => ?_)
  refine x_putFG f_X5_21 rfl (Gz7.2.1.at (by omega) gw6) (Nat.le_of_ble_eq_true rfl) (fun c => ⟨rfl, rfl⟩) dX5_init_34 (fun sw8 gw8 Fw8 Lw8 => ?_)
  refine x_aload_n dX5_init_37 rfl ?_
  refine x_bipush (v := nI 9) dX5_init_38 (by decide) ?_
  refine x_newIG (n := 9) (kr := 0) (r := 27) w_ai rfl (by omega) ((Lw8 _ _ _ (Gz7.2.2.1 _ rfl (Lw6 _ _ _ (Gz5.2.2.1 _ rfl (Lw4 _ _ _ (Gz3.2.2.1 _ rfl (Lw2 _ _ _ (Gz1.2.2.1 _ rfl hLn)))))))).zq0 (by omega)) (Lw8 _ _ _ (Gz7.2.2.1 _ rfl (Lw6 _ _ _ (Gz5.2.2.1 _ rfl (Lw4 _ _ _ (Gz3.2.2.1 _ rfl (Lw2 _ _ _ (Gz1.2.2.1 _ rfl hLn)))))))).zn0 (by omega) (by first | omega | (simp only [List.length_cons, List.length_nil]; omega)) dX5_init_40 (fun sw9 Gz9 => ?_)
  refine x_putFG f_X5_24 rfl (Gz9.2.1.at (by omega) gw8) (Nat.le_of_ble_eq_true rfl) (fun c => ⟨rfl, rfl⟩) dX5_init_42 (fun sw10 gw10 Fw10 Lw10 => ?_)
  exact x_vret ⟨by omega, by first | omega | (simp only [List.length_cons, List.length_nil]; omega)⟩ rfl dX5_init_45 ⟨rfl, ⟨gw10, (Fw10.at (by omega) (Gz9.2.1.at (by omega) (Fw8.at (by omega) (Gz7.2.1.at (by omega) (Fw6.at (by omega) (Gz5.2.1.at (by omega) (Fw4.at (by omega) (Gz3.2.1.at (by omega) (Fw2.at (by omega) Gz1.1))))))))), (Fw10.at (by omega) (Gz9.2.1.at (by omega) (Fw8.at (by omega) (Gz7.2.1.at (by omega) (Fw6.at (by omega) (Gz5.2.1.at (by omega) (Fw4.at (by omega) Gz3.1))))))), (Fw10.at (by omega) (Gz9.2.1.at (by omega) (Fw8.at (by omega) (Gz7.2.1.at (by omega) (Fw6.at (by omega) Gz5.1))))), (Fw10.at (by omega) (Gz9.2.1.at (by omega) (Fw8.at (by omega) Gz7.1))), (Fw10.at (by omega) Gz9.1), rfl, rfl, rfl, List.length_replicate, rfl⟩, (Lw10 _ _ _ (Gz9.2.2.1 _ rfl (Lw8 _ _ _ (Gz7.2.2.1 _ rfl (Lw6 _ _ _ (Gz5.2.2.1 _ rfl (Lw4 _ _ _ (Gz3.2.2.1 _ rfl (Lw2 _ _ _ (Gz1.2.2.1 _ rfl hLn)))))))))), ((((((((((Fr.rf.tr (Gz1.2.1.mono (fun i hi => by omega))).tr (Fw2.mono (fun i hi => by omega))).tr (Gz3.2.1.mono (fun i hi => by omega))).tr (Fw4.mono (fun i hi => by omega))).tr (Gz5.2.1.mono (fun i hi => by omega))).tr (Fw6.mono (fun i hi => by omega))).tr (Gz7.2.1.mono (fun i hi => by omega))).tr (Fw8.mono (fun i hi => by omega))).tr (Gz9.2.1.mono (fun i hi => by omega))).tr (Fw10.mono (fun i hi => by omega)))⟩
set_option maxHeartbeats 4000000 in
theorem c_rdInit {σ : ZS} (hLn : Ln σ 29 0 0) (g0 : zg σ 28 = some (.inr (.inr (2, [.null, .int 0, .int 0, .int 0, .int 0, .int 0, .int 0, .null, .int 0, .int 0, .int 0])))) : Cn 1 M_X3_init 2 320 [.ref 28] σ (fun r9 σ' => r9 = none ∧ Rd σ' (nI 0) 0 0 0 0 0 0 0 0 (List.replicate 160 0) (List.replicate 160 0) ∧ Ln σ' 31 0 0 ∧ Fr (fun i => 28 ≤ i ∧ i ≤ 30) σ σ') := by
  refine Cn.intro (lv0 := [some (.ref 28)]) rfl (Nat.le_of_ble_eq_true rfl) rfl (fun d hd => ?_)
  refine x_aload_n dX3_init_0 rfl ?_
  refine x_objInit l_X3_3 w_oi w_oc (by omega) (Nat.le_of_ble_eq_true rfl) dX3_init_1 ?_
  refine x_aload_n dX3_init_4 rfl ?_
  refine x_sipush (v := nI 160) dX3_init_5 (by decide) ?_
  refine x_newIG (n := 160) (kr := 0) (r := 29) w_ai rfl (by omega) (hLn.zq0 (by omega)) hLn.zn0 (by omega) (by first | omega | (simp only [List.length_cons, List.length_nil]; omega)) dX3_init_8 (fun sw1 Gz1 => ?_)
  refine x_putFG f_X3_11 rfl (Gz1.2.1.at (by omega) g0) (Nat.le_of_ble_eq_true rfl) (fun c => ⟨rfl, rfl⟩) dX3_init_10 (fun sw2 gw2 Fw2 Lw2 => ?_)
  refine x_aload_n dX3_init_13 rfl ?_
  refine x_iconst (v := nI 0) dX3_init_14 (by decide) ?_
  refine x_putG f_X3_15 gw2 (Nat.le_of_ble_eq_true rfl) (fun c => ⟨rfl, rfl⟩) dX3_init_15 (fun sw3 gw3 Fw3 Lw3 => ?_)
  refine x_aload_n dX3_init_18 rfl ?_
  refine x_sipush (v := nI 160) dX3_init_19 (by decide) ?_
  refine x_newIG (n := 160) (kr := 0) (r := 30) w_ai rfl (by omega) ((Lw3 _ _ _ (Lw2 _ _ _ (Gz1.2.2.1 _ rfl hLn))).zq0 (by omega)) (Lw3 _ _ _ (Lw2 _ _ _ (Gz1.2.2.1 _ rfl hLn))).zn0 (by omega) (by first | omega | (simp only [List.length_cons, List.length_nil]; omega)) dX3_init_22 (fun sw4 Gz4 => ?_)
  refine x_putFG f_X3_19 rfl (Gz4.2.1.at (by omega) gw3) (Nat.le_of_ble_eq_true rfl) (fun c => ⟨rfl, rfl⟩) dX3_init_24 (fun sw5 gw5 Fw5 Lw5 => ?_)
  exact x_vret ⟨by omega, by first | omega | (simp only [List.length_cons, List.length_nil]; omega)⟩ rfl dX3_init_27 ⟨rfl, ⟨gw5, (Fw5.at (by omega) (Gz4.2.1.at (by omega) (Fw3.at (by omega) (Fw2.at (by omega) Gz1.1)))), (Fw5.at (by omega) Gz4.1), List.length_replicate, List.length_replicate⟩, (Lw5 _ _ _ (Gz4.2.2.1 _ rfl (Lw3 _ _ _ (Lw2 _ _ _ (Gz1.2.2.1 _ rfl hLn))))), (((((Fr.rf.tr (Gz1.2.1.mono (fun i hi => by omega))).tr (Fw2.mono (fun i hi => by omega))).tr (Fw3.mono (fun i hi => by omega))).tr (Gz4.2.1.mono (fun i hi => by omega))).tr (Fw5.mono (fun i hi => by omega)))⟩
set_option maxHeartbeats 4000000 in
theorem c_maInit {σ : ZS} (hLn : Ln σ 17 0 0) (g0 : zg σ 16 = some (.inr (.inr (0, [.null, .null])))) : Cn 2 M_X1_init 5 219 [.ref 16] σ (fun r9 σ' => r9 = none ∧ zg σ' 16 = some (.inr (.inr (0, [.ref 17, .ref 18]))) ∧ zg σ' 17 = some (.inr (.inl (2, List.replicate 6 (some 19)))) ∧ zg σ' 18 = some (.inl (0, List.replicate 6 0)) ∧ zg σ' 19 = some (.inr (.inr (3, [.ref 20, .int (nI 1), .int (nI 2), .ref 21]))) ∧ zg σ' 20 = some (.inl (0, [5, 2, 1].map nI)) ∧ zg σ' 21 = some (.inl (0, List.replicate 3 0)) ∧ Ln σ' 22 0 0 ∧ Fr (fun i => 16 ≤ i ∧ i ≤ 21) σ σ') := by
  refine Cn.intro (lv0 := [some (.ref 16), none, none]) rfl (Nat.le_of_ble_eq_true rfl) rfl (fun d hd => ?_)
  refine x_aload_n dX1_init_0 rfl ?_
  refine x_objInit l_X1_3 w_oi w_oc (by omega) (Nat.le_of_ble_eq_true rfl) dX1_init_1 ?_
  refine x_aload_n dX1_init_4 rfl ?_
  refine x_bipush (v := nI 6) dX1_init_5 (by decide) ?_
  refine x_anewG (n := 6) (kr := 0) (t := 2) (r := 17) (by decide) kc_X1_9 rfl (by omega) (hLn.zq0 (by omega)) hLn.zn0 (by omega) (by first | omega | (simp only [List.length_cons, List.length_nil]; omega)) dX1_init_7 (fun sw1 Gz1 => ?_)
  refine x_putFG f_X1_11 rfl (Gz1.2.1.at (by omega) g0) (Nat.le_of_ble_eq_true rfl) (fun c => ⟨rfl, rfl⟩) dX1_init_10 (fun sw2 gw2 Fw2 Lw2 => ?_)
  refine x_aload_n dX1_init_13 rfl ?_
  refine x_bipush (v := nI 6) dX1_init_14 (by decide) ?_
  refine x_newIG (n := 6) (kr := 0) (r := 18) w_ai rfl (by omega) ((Lw2 _ _ _ (Gz1.2.2.1 _ rfl hLn)).zq0 (by omega)) (Lw2 _ _ _ (Gz1.2.2.1 _ rfl hLn)).zn0 (by omega) (by first | omega | (simp only [List.length_cons, List.length_nil]; omega)) dX1_init_16 (fun sw3 Gz3 => ?_)
  refine x_putFG f_X1_17 rfl (Gz3.2.1.at (by omega) gw2) (Nat.le_of_ble_eq_true rfl) (fun c => ⟨rfl, rfl⟩) dX1_init_18 (fun sw4 gw4 Fw4 Lw4 => ?_)
  refine x_newG (kr := 0) (r := 19) k_X1_9 ((Lw4 _ _ _ (Gz3.2.2.1 _ rfl (Lw2 _ _ _ (Gz1.2.2.1 _ rfl hLn)))).zq0 (by omega)) (Lw4 _ _ _ (Gz3.2.2.1 _ rfl (Lw2 _ _ _ (Gz1.2.2.1 _ rfl hLn)))).zn0 (by omega) (by first | (show _ + 4 ≤ _; omega) | (simp only [List.length_cons, List.length_nil]; omega)) dX1_init_21 (fun sw5 Gz5 => ?_)
  refine x_dup dX1_init_24 rfl ?_
  refine x_iconst (v := nI 3) dX1_init_25 (by decide) ?_
  refine x_newIG (n := 3) (kr := 0) (r := 20) w_ai rfl (by omega) ((Gz5.2.2.1 _ rfl (Lw4 _ _ _ (Gz3.2.2.1 _ rfl (Lw2 _ _ _ (Gz1.2.2.1 _ rfl hLn))))).zq0 (by omega)) (Gz5.2.2.1 _ rfl (Lw4 _ _ _ (Gz3.2.2.1 _ rfl (Lw2 _ _ _ (Gz1.2.2.1 _ rfl hLn))))).zn0 (by omega) (by first | omega | (simp only [List.length_cons, List.length_nil]; omega)) dX1_init_26 (fun sw6 Gz6 => ?_)
  refine x_dup dX1_init_28 rfl ?_
  refine x_iconst (v := nI 0) dX1_init_29 (by decide) ?_
  refine x_iconst (v := nI 5) dX1_init_30 (by decide) ?_
  refine x_iastG (n := 0) Gz6.1 rfl (by first | (rw [List.length_replicate]; omega) | (simp only [List.length_set, List.length_replicate]; omega)) dX1_init_31 (fun sw7 gw7 Fw7 Lw7 => ?_)
  refine x_dup dX1_init_32 rfl ?_
  refine x_iconst (v := nI 1) dX1_init_33 (by decide) ?_
  refine x_iconst (v := nI 2) dX1_init_34 (by decide) ?_
  refine x_iastG (n := 1) gw7 rfl (by first | (rw [List.length_replicate]; omega) | (simp only [List.length_set, List.length_replicate]; omega)) dX1_init_35 (fun sw8 gw8 Fw8 Lw8 => ?_)
  refine x_dup dX1_init_36 rfl ?_
  refine x_iconst (v := nI 2) dX1_init_37 (by decide) ?_
  refine x_iconst (v := nI 1) dX1_init_38 (by decide) ?_
  refine x_iastG (n := 2) gw8 rfl (by first | (rw [List.length_replicate]; omega) | (simp only [List.length_set, List.length_replicate]; omega)) dX1_init_39 (fun sw9 gw9 Fw9 Lw9 => ?_)
  refine x_iconst (v := nI 1) dX1_init_40 (by decide) ?_
  refine x_iconst (v := nI 2) dX1_init_41 (by decide) ?_
  refine x_callI m_X4_init l_X1_21 (c_ruleInit0 (Lw9 _ _ _ (Lw8 _ _ _ (Lw7 _ _ _ (Gz6.2.2.1 _ rfl (Gz5.2.2.1 _ rfl (Lw4 _ _ _ (Gz3.2.2.1 _ rfl (Lw2 _ _ _ (Gz1.2.2.1 _ rfl hLn))))))))) (by omega) (Fw9.at (by omega) (Fw8.at (by omega) (Fw7.at (by omega) (Gz6.2.1.at (by omega) Gz5.1)))) gw9 (by simp only [List.length_set, List.length_replicate]; omega) (by omega) (by omega) (by omega)) (by omega) rfl rfl (Nat.le_of_ble_eq_true rfl) ⟨by omega, by first | omega | (simp only [List.length_cons, List.length_nil]; omega)⟩ dX1_init_42 (fun r10 s10 q10 => ?_)
  obtain ⟨rfl, y10, z10, L10, F10⟩ := q10
  refine x_stk (st' := [.ref 19]) rfl ?_
  refine x_astore_n dX1_init_45 (by decide) rfl ?_
  refine x_lv (lv' := [some (.ref 16), some (.ref 19), none]) rfl ?_
  refine x_iconst (v := nI 0) dX1_init_46 (by decide) ?_
  refine x_istore_n dX1_init_47 (by decide) rfl ?_
  refine x_lv (lv' := [some (.ref 16), some (.ref 19), some (.int (nI 0))]) rfl ?_
  refine x_iload_n dX1_init_48 rfl ?_
  refine x_bipush (v := nI 6) dX1_init_49 (by decide) ?_
  refine x_icmpN_ge (tgt := 67) dX1_init_51 (by decide) (by omega) (by omega) (fun hv11 => ?_) (fun hv11 => ?_)
  · exact absurd hv11 (by omega)
  · refine x_aload_n dX1_init_54 rfl ?_
    refine x_get (v := .ref 17) f_X1_11 (F10.at (by omega) (Fw9.at (by omega) (Fw8.at (by omega) (Fw7.at (by omega) (Gz6.2.1.at (by omega) (Gz5.2.1.at (by omega) gw4)))))) rfl dX1_init_55 ?_
    refine x_iload_n dX1_init_58 rfl ?_
    refine x_aload_n dX1_init_59 rfl ?_
    refine x_aastG (n := 0) (by decide) (F10.at (by omega) (Fw9.at (by omega) (Fw8.at (by omega) (Fw7.at (by omega) (Gz6.2.1.at (by omega) (Gz5.2.1.at (by omega) (Fw4.at (by omega) (Gz3.2.1.at (by omega) (Fw2.at (by omega) Gz1.1))))))))) y10 rfl (by simp only [List.length_replicate, List.length_set]; omega) dX1_init_60 (fun sw12 gw12 Fw12 Lw12 => ?_)
    refine x_iincN dX1_init_61 rfl (by decide) rfl ?_
    refine x_lv (lv' := [some (.ref 16), some (.ref 19), some (.int (nI (0 + 1)))]) rfl ?_
    refine x_goto (tgt := 48) dX1_init_64 (by decide) ?_
    refine x_iload_n dX1_init_48 rfl ?_
    refine x_bipush (v := nI 6) dX1_init_49 (by decide) ?_
    refine x_icmpN_ge (tgt := 67) dX1_init_51 (by decide) (by omega) (by omega) (fun hv13 => ?_) (fun hv13 => ?_)
    · exact absurd hv13 (by omega)
    · refine x_aload_n dX1_init_54 rfl ?_
      refine x_get (v := .ref 17) f_X1_11 (Fw12.at (by omega) (F10.at (by omega) (Fw9.at (by omega) (Fw8.at (by omega) (Fw7.at (by omega) (Gz6.2.1.at (by omega) (Gz5.2.1.at (by omega) gw4))))))) rfl dX1_init_55 ?_
      refine x_iload_n dX1_init_58 rfl ?_
      refine x_aload_n dX1_init_59 rfl ?_
      refine x_aastG (n := 0 + 1) (by decide) gw12 (Fw12.at (by omega) y10) rfl (by simp only [List.length_replicate, List.length_set]; omega) dX1_init_60 (fun sw14 gw14 Fw14 Lw14 => ?_)
      refine x_iincN dX1_init_61 rfl (by decide) rfl ?_
      refine x_lv (lv' := [some (.ref 16), some (.ref 19), some (.int (nI ((0 + 1) + 1)))]) rfl ?_
      refine x_goto (tgt := 48) dX1_init_64 (by decide) ?_
      refine x_iload_n dX1_init_48 rfl ?_
      refine x_bipush (v := nI 6) dX1_init_49 (by decide) ?_
      refine x_icmpN_ge (tgt := 67) dX1_init_51 (by decide) (by omega) (by omega) (fun hv15 => ?_) (fun hv15 => ?_)
      · exact absurd hv15 (by omega)
      · refine x_aload_n dX1_init_54 rfl ?_
        refine x_get (v := .ref 17) f_X1_11 (Fw14.at (by omega) (Fw12.at (by omega) (F10.at (by omega) (Fw9.at (by omega) (Fw8.at (by omega) (Fw7.at (by omega) (Gz6.2.1.at (by omega) (Gz5.2.1.at (by omega) gw4)))))))) rfl dX1_init_55 ?_
        refine x_iload_n dX1_init_58 rfl ?_
        refine x_aload_n dX1_init_59 rfl ?_
        refine x_aastG (n := (0 + 1) + 1) (by decide) gw14 (Fw14.at (by omega) (Fw12.at (by omega) y10)) rfl (by simp only [List.length_replicate, List.length_set]; omega) dX1_init_60 (fun sw16 gw16 Fw16 Lw16 => ?_)
        refine x_iincN dX1_init_61 rfl (by decide) rfl ?_
        refine x_lv (lv' := [some (.ref 16), some (.ref 19), some (.int (nI (((0 + 1) + 1) + 1)))]) rfl ?_
        refine x_goto (tgt := 48) dX1_init_64 (by decide) ?_
        refine x_iload_n dX1_init_48 rfl ?_
        refine x_bipush (v := nI 6) dX1_init_49 (by decide) ?_
        refine x_icmpN_ge (tgt := 67) dX1_init_51 (by decide) (by omega) (by omega) (fun hv17 => ?_) (fun hv17 => ?_)
        · exact absurd hv17 (by omega)
        · refine x_aload_n dX1_init_54 rfl ?_
          refine x_get (v := .ref 17) f_X1_11 (Fw16.at (by omega) (Fw14.at (by omega) (Fw12.at (by omega) (F10.at (by omega) (Fw9.at (by omega) (Fw8.at (by omega) (Fw7.at (by omega) (Gz6.2.1.at (by omega) (Gz5.2.1.at (by omega) gw4))))))))) rfl dX1_init_55 ?_
          refine x_iload_n dX1_init_58 rfl ?_
          refine x_aload_n dX1_init_59 rfl ?_
          refine x_aastG (n := ((0 + 1) + 1) + 1) (by decide) gw16 (Fw16.at (by omega) (Fw14.at (by omega) (Fw12.at (by omega) y10))) rfl (by simp only [List.length_replicate, List.length_set]; omega) dX1_init_60 (fun sw18 gw18 Fw18 Lw18 => ?_)
          refine x_iincN dX1_init_61 rfl (by decide) rfl ?_
          refine x_lv (lv' := [some (.ref 16), some (.ref 19), some (.int (nI ((((0 + 1) + 1) + 1) + 1)))]) rfl ?_
          refine x_goto (tgt := 48) dX1_init_64 (by decide) ?_
          refine x_iload_n dX1_init_48 rfl ?_
          refine x_bipush (v := nI 6) dX1_init_49 (by decide) ?_
          refine x_icmpN_ge (tgt := 67) dX1_init_51 (by decide) (by omega) (by omega) (fun hv19 => ?_) (fun hv19 => ?_)
          · exact absurd hv19 (by omega)
          · refine x_aload_n dX1_init_54 rfl ?_
            refine x_get (v := .ref 17) f_X1_11 (Fw18.at (by omega) (Fw16.at (by omega) (Fw14.at (by omega) (Fw12.at (by omega) (F10.at (by omega) (Fw9.at (by omega) (Fw8.at (by omega) (Fw7.at (by omega) (Gz6.2.1.at (by omega) (Gz5.2.1.at (by omega) gw4)))))))))) rfl dX1_init_55 ?_
            refine x_iload_n dX1_init_58 rfl ?_
            refine x_aload_n dX1_init_59 rfl ?_
            refine x_aastG (n := (((0 + 1) + 1) + 1) + 1) (by decide) gw18 (Fw18.at (by omega) (Fw16.at (by omega) (Fw14.at (by omega) (Fw12.at (by omega) y10)))) rfl (by simp only [List.length_replicate, List.length_set]; omega) dX1_init_60 (fun sw20 gw20 Fw20 Lw20 => ?_)
            refine x_iincN dX1_init_61 rfl (by decide) rfl ?_
            refine x_lv (lv' := [some (.ref 16), some (.ref 19), some (.int (nI (((((0 + 1) + 1) + 1) + 1) + 1)))]) rfl ?_
            refine x_goto (tgt := 48) dX1_init_64 (by decide) ?_
            refine x_iload_n dX1_init_48 rfl ?_
            refine x_bipush (v := nI 6) dX1_init_49 (by decide) ?_
            refine x_icmpN_ge (tgt := 67) dX1_init_51 (by decide) (by omega) (by omega) (fun hv21 => ?_) (fun hv21 => ?_)
            · exact absurd hv21 (by omega)
            · refine x_aload_n dX1_init_54 rfl ?_
              refine x_get (v := .ref 17) f_X1_11 (Fw20.at (by omega) (Fw18.at (by omega) (Fw16.at (by omega) (Fw14.at (by omega) (Fw12.at (by omega) (F10.at (by omega) (Fw9.at (by omega) (Fw8.at (by omega) (Fw7.at (by omega) (Gz6.2.1.at (by omega) (Gz5.2.1.at (by omega) gw4))))))))))) rfl dX1_init_55 ?_
              refine x_iload_n dX1_init_58 rfl ?_
              refine x_aload_n dX1_init_59 rfl ?_
              refine x_aastG (n := ((((0 + 1) + 1) + 1) + 1) + 1) (by decide) gw20 (Fw20.at (by omega) (Fw18.at (by omega) (Fw16.at (by omega) (Fw14.at (by omega) (Fw12.at (by omega) y10))))) rfl (by simp only [List.length_replicate, List.length_set]; omega) dX1_init_60 (fun sw22 gw22 Fw22 Lw22 => ?_)
              refine x_iincN dX1_init_61 rfl (by decide) rfl ?_
              refine x_lv (lv' := [some (.ref 16), some (.ref 19), some (.int (nI ((((((0 + 1) + 1) + 1) + 1) + 1) + 1)))]) rfl ?_
              refine x_goto (tgt := 48) dX1_init_64 (by decide) ?_
              refine x_iload_n dX1_init_48 rfl ?_
              refine x_bipush (v := nI 6) dX1_init_49 (by decide) ?_
              refine x_icmpN_ge (tgt := 67) dX1_init_51 (by decide) (by omega) (by omega) (fun hv23 => ?_) (fun hv23 => ?_)
              · exact x_vret ⟨by omega, by first | omega | (simp only [List.length_cons, List.length_nil]; omega)⟩ rfl dX1_init_67 ⟨rfl, (Fw22.at (by omega) (Fw20.at (by omega) (Fw18.at (by omega) (Fw16.at (by omega) (Fw14.at (by omega) (Fw12.at (by omega) (F10.at (by omega) (Fw9.at (by omega) (Fw8.at (by omega) (Fw7.at (by omega) (Gz6.2.1.at (by omega) (Gz5.2.1.at (by omega) gw4)))))))))))), gw22, (Fw22.at (by omega) (Fw20.at (by omega) (Fw18.at (by omega) (Fw16.at (by omega) (Fw14.at (by omega) (Fw12.at (by omega) (F10.at (by omega) (Fw9.at (by omega) (Fw8.at (by omega) (Fw7.at (by omega) (Gz6.2.1.at (by omega) (Gz5.2.1.at (by omega) (Fw4.at (by omega) Gz3.1))))))))))))), (Fw22.at (by omega) (Fw20.at (by omega) (Fw18.at (by omega) (Fw16.at (by omega) (Fw14.at (by omega) (Fw12.at (by omega) y10)))))), (Fw22.at (by omega) (Fw20.at (by omega) (Fw18.at (by omega) (Fw16.at (by omega) (Fw14.at (by omega) (Fw12.at (by omega) (F10.at (by omega) gw9))))))), (Fw22.at (by omega) (Fw20.at (by omega) (Fw18.at (by omega) (Fw16.at (by omega) (Fw14.at (by omega) (Fw12.at (by omega) z10)))))), (Lw22 _ _ _ (Lw20 _ _ _ (Lw18 _ _ _ (Lw16 _ _ _ (Lw14 _ _ _ (Lw12 _ _ _ L10)))))), ((((((((((((((((Fr.rf.tr (Gz1.2.1.mono (fun i hi => by omega))).tr (Fw2.mono (fun i hi => by omega))).tr (Gz3.2.1.mono (fun i hi => by omega))).tr (Fw4.mono (fun i hi => by omega))).tr (Gz5.2.1.mono (fun i hi => by omega))).tr (Gz6.2.1.mono (fun i hi => by omega))).tr (Fw7.mono (fun i hi => by omega))).tr (Fw8.mono (fun i hi => by omega))).tr (Fw9.mono (fun i hi => by omega))).tr (F10.mono (fun i hi => by omega))).tr (Fw12.mono (fun i hi => by omega))).tr (Fw14.mono (fun i hi => by omega))).tr (Fw16.mono (fun i hi => by omega))).tr (Fw18.mono (fun i hi => by omega))).tr (Fw20.mono (fun i hi => by omega))).tr (Fw22.mono (fun i hi => by omega)))⟩
              · exact absurd hv23 (by omega)
set_option maxHeartbeats 4000000 in
theorem c_init {σ : ZS} (hLn : Ln σ 1 0 0) (g0 : zg σ 0 = some (.inr (.inr (6, [.null, .null, .null, .null, .null, .null, .null, .int 0, .int 0])))) : Cn 3 M_X7_init 39 1400 [.ref 0] σ (fun r9 σ' => r9 = none ∧ zg σ' 0 = some (.inr (.inr (6, [.ref 1, .ref 6, .ref 11, .ref 16, .ref 22, .ref 28, .ref 31, .int (nI 1), .int (nI 0)]))) ∧ Pa σ' 1 (nI 1) (nI 0) (nI 0) 0 (List.replicate 7 0) (List.replicate 7 0) (List.replicate 7 0) (List.replicate 49 0) ∧ Pa σ' 6 (nI 1) (nI 0) (nI 0) 0 (List.replicate 7 0) (List.replicate 7 0) (List.replicate 7 0) (List.replicate 49 0) ∧ Pa σ' 11 (nI 1) (nI 0) (nI 0) 0 (List.replicate 7 0) (List.replicate 7 0) (List.replicate 7 0) (List.replicate 49 0) ∧ (zg σ' 16 = some (.inr (.inr (0, [.ref 17, .ref 18]))) ∧ zg σ' 17 = some (.inr (.inl (2, List.replicate 6 (some 19)))) ∧ zg σ' 18 = some (.inl (0, List.replicate 6 0)) ∧ zg σ' 19 = some (.inr (.inr (3, [.ref 20, .int (nI 1), .int (nI 2), .ref 21]))) ∧ zg σ' 20 = some (.inl (0, [5, 2, 1].map nI)) ∧ zg σ' 21 = some (.inl (0, List.replicate 3 0))) ∧ Se σ' 0 0 0 0 0 0 0 (List.replicate 7 0) (List.replicate 7 0) (List.replicate 7 0) (List.replicate 343 0) (List.replicate 9 0) ∧ Rd σ' (nI 0) 0 0 0 0 0 0 0 0 (List.replicate 160 0) (List.replicate 160 0) ∧ CSH σ' (fun _ => (-1, 0, List.replicate 40 0)) ∧ Ln σ' 40 0 0) := by
  refine Cn.intro (lv0 := [some (.ref 0), none]) rfl (Nat.le_of_ble_eq_true rfl) rfl (fun d hd => ?_)
  refine x_aload_n dX7_init_0 rfl ?_
  refine x_objInit l_X7_1 w_oi w_oc (by omega) (Nat.le_of_ble_eq_true rfl) dX7_init_1 ?_
  refine x_aload_n dX7_init_4 rfl ?_
  refine x_newG (kr := 0) (r := 1) k_X7_7 (hLn.zq0 (by omega)) hLn.zn0 (by omega) (by first | (show _ + 8 ≤ _; omega) | (simp only [List.length_cons, List.length_nil]; omega)) dX7_init_5 (fun sw1 Gz1 => ?_)
  refine x_dup dX7_init_8 rfl ?_
  refine x_callIN m_X2_init n_X7_9 (c_paInit (p := 1) (Gz1.2.2.1 _ rfl hLn) (by omega) Gz1.1) (by omega) rfl rfl (Nat.le_of_ble_eq_true rfl) ⟨by omega, by first | omega | (simp only [List.length_cons, List.length_nil]; omega)⟩ dX7_init_9 (fun r2 s2 q2 => ?_)
  obtain ⟨rfl, P2, L2, F2⟩ := q2
  refine x_stk (st' := [.ref 1, .ref 0]) rfl ?_
  refine x_putFG f_X7_10 rfl (F2.at (by omega) (Gz1.2.1.at (by omega) g0)) (Nat.le_of_ble_eq_true rfl) (fun c => ⟨rfl, rfl⟩) dX7_init_12 (fun sw3 gw3 Fw3 Lw3 => ?_)
  refine x_aload_n dX7_init_15 rfl ?_
  refine x_newG (kr := 0) (r := 6) k_X7_7 ((Lw3 _ _ _ L2).zq0 (by omega)) (Lw3 _ _ _ L2).zn0 (by omega) (by first | (show _ + 8 ≤ _; omega) | (simp only [List.length_cons, List.length_nil]; omega)) dX7_init_16 (fun sw4 Gz4 => ?_)
  refine x_dup dX7_init_19 rfl ?_
  refine x_callIN m_X2_init n_X7_9 (c_paInit (p := 6) (Gz4.2.2.1 _ rfl (Lw3 _ _ _ L2)) (by omega) Gz4.1) (by omega) rfl rfl (Nat.le_of_ble_eq_true rfl) ⟨by omega, by first | omega | (simp only [List.length_cons, List.length_nil]; omega)⟩ dX7_init_20 (fun r5 s5 q5 => ?_)
  obtain ⟨rfl, P5, L5, F5⟩ := q5
  refine x_stk (st' := [.ref 6, .ref 0]) rfl ?_
  refine x_putFG f_X7_16 rfl (F5.at (by omega) (Gz4.2.1.at (by omega) gw3)) (Nat.le_of_ble_eq_true rfl) (fun c => ⟨rfl, rfl⟩) dX7_init_23 (fun sw6 gw6 Fw6 Lw6 => ?_)
  refine x_aload_n dX7_init_26 rfl ?_
  refine x_newG (kr := 0) (r := 11) k_X7_7 ((Lw6 _ _ _ L5).zq0 (by omega)) (Lw6 _ _ _ L5).zn0 (by omega) (by first | (show _ + 8 ≤ _; omega) | (simp only [List.length_cons, List.length_nil]; omega)) dX7_init_27 (fun sw7 Gz7 => ?_)
  refine x_dup dX7_init_30 rfl ?_
  refine x_callIN m_X2_init n_X7_9 (c_paInit (p := 11) (Gz7.2.2.1 _ rfl (Lw6 _ _ _ L5)) (by omega) Gz7.1) (by omega) rfl rfl (Nat.le_of_ble_eq_true rfl) ⟨by omega, by first | omega | (simp only [List.length_cons, List.length_nil]; omega)⟩ dX7_init_31 (fun r8 s8 q8 => ?_)
  obtain ⟨rfl, P8, L8, F8⟩ := q8
  refine x_stk (st' := [.ref 11, .ref 0]) rfl ?_
  refine x_putFG f_X7_19 rfl (F8.at (by omega) (Gz7.2.1.at (by omega) gw6)) (Nat.le_of_ble_eq_true rfl) (fun c => ⟨rfl, rfl⟩) dX7_init_34 (fun sw9 gw9 Fw9 Lw9 => ?_)
  refine x_aload_n dX7_init_37 rfl ?_
  refine x_newG (kr := 0) (r := 16) k_X7_22 ((Lw9 _ _ _ L8).zq0 (by omega)) (Lw9 _ _ _ L8).zn0 (by omega) (by first | (show _ + 2 ≤ _; omega) | (simp only [List.length_cons, List.length_nil]; omega)) dX7_init_38 (fun sw10 Gz10 => ?_)
  refine x_dup dX7_init_41 rfl ?_
  refine x_callI m_X1_init l_X7_24 (c_maInit (Gz10.2.2.1 _ rfl (Lw9 _ _ _ L8)) Gz10.1) (by omega) rfl rfl (Nat.le_of_ble_eq_true rfl) ⟨by omega, by first | omega | (simp only [List.length_cons, List.length_nil]; omega)⟩ dX7_init_42 (fun r11 s11 q11 => ?_)
  obtain ⟨rfl, m0_11, m1_11, m2_11, m3_11, m4_11, m5_11, L11, F11⟩ := q11
  refine x_stk (st' := [.ref 16, .ref 0]) rfl ?_
  refine x_putFG f_X7_25 rfl (F11.at (by omega) (Gz10.2.1.at (by omega) gw9)) (Nat.le_of_ble_eq_true rfl) (fun c => ⟨rfl, rfl⟩) dX7_init_45 (fun sw12 gw12 Fw12 Lw12 => ?_)
  refine x_aload_n dX7_init_48 rfl ?_
  refine x_newG (kr := 0) (r := 22) k_X7_29 ((Lw12 _ _ _ L11).zq0 (by omega)) (Lw12 _ _ _ L11).zn0 (by omega) (by first | (show _ + 12 ≤ _; omega) | (simp only [List.length_cons, List.length_nil]; omega)) dX7_init_49 (fun sw13 Gz13 => ?_)
  refine x_dup dX7_init_52 rfl ?_
  refine x_callIN m_X5_init n_X7_31 (c_seInit (Gz13.2.2.1 _ rfl (Lw12 _ _ _ L11)) Gz13.1) (by omega) rfl rfl (Nat.le_of_ble_eq_true rfl) ⟨by omega, by first | omega | (simp only [List.length_cons, List.length_nil]; omega)⟩ dX7_init_53 (fun r14 s14 q14 => ?_)
  obtain ⟨rfl, S14, L14, F14⟩ := q14
  refine x_stk (st' := [.ref 22, .ref 0]) rfl ?_
  refine x_putFG f_X7_32 rfl (F14.at (by omega) (Gz13.2.1.at (by omega) gw12)) (Nat.le_of_ble_eq_true rfl) (fun c => ⟨rfl, rfl⟩) dX7_init_56 (fun sw15 gw15 Fw15 Lw15 => ?_)
  refine x_aload_n dX7_init_59 rfl ?_
  refine x_newG (kr := 0) (r := 28) k_X7_36 ((Lw15 _ _ _ L14).zq0 (by omega)) (Lw15 _ _ _ L14).zn0 (by omega) (by first | (show _ + 11 ≤ _; omega) | (simp only [List.length_cons, List.length_nil]; omega)) dX7_init_60 (fun sw16 Gz16 => ?_)
  refine x_dup dX7_init_63 rfl ?_
  refine x_callIN m_X3_init n_X7_38 (c_rdInit (Gz16.2.2.1 _ rfl (Lw15 _ _ _ L14)) Gz16.1) (by omega) rfl rfl (Nat.le_of_ble_eq_true rfl) ⟨by omega, by first | omega | (simp only [List.length_cons, List.length_nil]; omega)⟩ dX7_init_64 (fun r17 s17 q17 => ?_)
  obtain ⟨rfl, R17, L17, F17⟩ := q17
  refine x_stk (st' := [.ref 28, .ref 0]) rfl ?_
  refine x_putFG f_X7_39 rfl (F17.at (by omega) (Gz16.2.1.at (by omega) gw15)) (Nat.le_of_ble_eq_true rfl) (fun c => ⟨rfl, rfl⟩) dX7_init_67 (fun sw18 gw18 Fw18 Lw18 => ?_)
  refine x_aload_n dX7_init_70 rfl ?_
  refine x_iconst (v := nI 4) dX7_init_71 (by decide) ?_
  refine x_anewG (n := 4) (kr := 0) (t := 3) (r := 31) (by decide) kc_X7_43 rfl (by omega) ((Lw18 _ _ _ L17).zq0 (by omega)) (Lw18 _ _ _ L17).zn0 (by omega) (by first | omega | (simp only [List.length_cons, List.length_nil]; omega)) dX7_init_72 (fun sw19 Gz19 => ?_)
  refine x_putFG f_X7_45 rfl (Gz19.2.1.at (by omega) gw18) (Nat.le_of_ble_eq_true rfl) (fun c => ⟨rfl, rfl⟩) dX7_init_75 (fun sw20 gw20 Fw20 Lw20 => ?_)
  refine x_aload_n dX7_init_78 rfl ?_
  refine x_iconst (v := nI 1) dX7_init_79 (by decide) ?_
  refine x_putG f_X7_49 gw20 (Nat.le_of_ble_eq_true rfl) (fun c => ⟨rfl, rfl⟩) dX7_init_80 (fun sw21 gw21 Fw21 Lw21 => ?_)
  refine x_aload_n dX7_init_83 rfl ?_
  refine x_iconst (v := nI 0) dX7_init_84 (by decide) ?_
  refine x_putG f_X7_53 gw21 (Nat.le_of_ble_eq_true rfl) (fun c => zb0) dX7_init_85 (fun sw22 gw22 Fw22 Lw22 => ?_)
  refine x_iconst (v := nI 0) dX7_init_88 (by decide) ?_
  refine x_istore_n dX7_init_89 (by decide) rfl ?_
  refine x_lv (lv' := [some (.ref 0), some (.int (nI 0))]) rfl ?_
  refine x_iload_n dX7_init_90 rfl ?_
  refine x_iconst (v := nI 4) dX7_init_91 (by decide) ?_
  refine x_icmpN_ge (tgt := 114) dX7_init_92 (by decide) (by omega) (by omega) (fun hv23 => ?_) (fun hv23 => ?_)
  · exact absurd hv23 (by omega)
  · refine x_aload_n dX7_init_95 rfl ?_
    refine x_get (v := .ref 31) f_X7_45 gw22 rfl dX7_init_96 ?_
    refine x_iload_n dX7_init_99 rfl ?_
    refine x_newG (kr := 0) (r := 32) k_X7_43 ((Lw22 _ _ _ (Lw21 _ _ _ (Lw20 _ _ _ (Gz19.2.2.1 _ rfl (Lw18 _ _ _ L17))))).zq0 (by omega)) (Lw22 _ _ _ (Lw21 _ _ _ (Lw20 _ _ _ (Gz19.2.2.1 _ rfl (Lw18 _ _ _ L17))))).zn0 (by omega) (by first | (show _ + 3 ≤ _; omega) | (simp only [List.length_cons, List.length_nil]; omega)) dX7_init_100 (fun sw24 Gz24 => ?_)
    refine x_dup dX7_init_103 rfl ?_
    refine x_callIN m_X6_init n_X7_57 (c_shInit (Gz24.2.2.1 _ rfl (Lw22 _ _ _ (Lw21 _ _ _ (Lw20 _ _ _ (Gz19.2.2.1 _ rfl (Lw18 _ _ _ L17)))))) (by omega) (by omega) Gz24.1) (by omega) rfl rfl (Nat.le_of_ble_eq_true rfl) ⟨by omega, by first | omega | (simp only [List.length_cons, List.length_nil]; omega)⟩ dX7_init_104 (fun r25 s25 q25 => ?_)
    obtain ⟨rfl, y25, z25, L25, F25⟩ := q25
    refine x_stk (st' := [.ref 32, .int (nI 0), .ref 31]) rfl ?_
    refine x_aastG (n := 0) (by decide) (F25.at (by omega) (Gz24.2.1.at (by omega) (Fw22.at (by omega) (Fw21.at (by omega) (Fw20.at (by omega) Gz19.1))))) y25 rfl (by simp only [List.length_replicate, List.length_set]; omega) dX7_init_107 (fun sw26 gw26 Fw26 Lw26 => ?_)
    refine x_iincN dX7_init_108 rfl (by decide) rfl ?_
    refine x_lv (lv' := [some (.ref 0), some (.int (nI (0 + 1)))]) rfl ?_
    refine x_goto (tgt := 90) dX7_init_111 (by decide) ?_
    refine x_iload_n dX7_init_90 rfl ?_
    refine x_iconst (v := nI 4) dX7_init_91 (by decide) ?_
    refine x_icmpN_ge (tgt := 114) dX7_init_92 (by decide) (by omega) (by omega) (fun hv27 => ?_) (fun hv27 => ?_)
    · exact absurd hv27 (by omega)
    · refine x_aload_n dX7_init_95 rfl ?_
      refine x_get (v := .ref 31) f_X7_45 (Fw26.at (by omega) (F25.at (by omega) (Gz24.2.1.at (by omega) gw22))) rfl dX7_init_96 ?_
      refine x_iload_n dX7_init_99 rfl ?_
      refine x_newG (kr := 0) (r := 34) k_X7_43 ((Lw26 _ _ _ L25).zq0 (by omega)) (Lw26 _ _ _ L25).zn0 (by omega) (by first | (show _ + 3 ≤ _; omega) | (simp only [List.length_cons, List.length_nil]; omega)) dX7_init_100 (fun sw28 Gz28 => ?_)
      refine x_dup dX7_init_103 rfl ?_
      refine x_callIN m_X6_init n_X7_57 (c_shInit (Gz28.2.2.1 _ rfl (Lw26 _ _ _ L25)) (by omega) (by omega) Gz28.1) (by omega) rfl rfl (Nat.le_of_ble_eq_true rfl) ⟨by omega, by first | omega | (simp only [List.length_cons, List.length_nil]; omega)⟩ dX7_init_104 (fun r29 s29 q29 => ?_)
      obtain ⟨rfl, y29, z29, L29, F29⟩ := q29
      refine x_stk (st' := [.ref 34, .int (nI (0 + 1)), .ref 31]) rfl ?_
      refine x_aastG (n := 0 + 1) (by decide) (F29.at (by omega) (Gz28.2.1.at (by omega) gw26)) y29 rfl (by simp only [List.length_replicate, List.length_set]; omega) dX7_init_107 (fun sw30 gw30 Fw30 Lw30 => ?_)
      refine x_iincN dX7_init_108 rfl (by decide) rfl ?_
      refine x_lv (lv' := [some (.ref 0), some (.int (nI ((0 + 1) + 1)))]) rfl ?_
      refine x_goto (tgt := 90) dX7_init_111 (by decide) ?_
      refine x_iload_n dX7_init_90 rfl ?_
      refine x_iconst (v := nI 4) dX7_init_91 (by decide) ?_
      refine x_icmpN_ge (tgt := 114) dX7_init_92 (by decide) (by omega) (by omega) (fun hv31 => ?_) (fun hv31 => ?_)
      · exact absurd hv31 (by omega)
      · refine x_aload_n dX7_init_95 rfl ?_
        refine x_get (v := .ref 31) f_X7_45 (Fw30.at (by omega) (F29.at (by omega) (Gz28.2.1.at (by omega) (Fw26.at (by omega) (F25.at (by omega) (Gz24.2.1.at (by omega) gw22)))))) rfl dX7_init_96 ?_
        refine x_iload_n dX7_init_99 rfl ?_
        refine x_newG (kr := 0) (r := 36) k_X7_43 ((Lw30 _ _ _ L29).zq0 (by omega)) (Lw30 _ _ _ L29).zn0 (by omega) (by first | (show _ + 3 ≤ _; omega) | (simp only [List.length_cons, List.length_nil]; omega)) dX7_init_100 (fun sw32 Gz32 => ?_)
        refine x_dup dX7_init_103 rfl ?_
        refine x_callIN m_X6_init n_X7_57 (c_shInit (Gz32.2.2.1 _ rfl (Lw30 _ _ _ L29)) (by omega) (by omega) Gz32.1) (by omega) rfl rfl (Nat.le_of_ble_eq_true rfl) ⟨by omega, by first | omega | (simp only [List.length_cons, List.length_nil]; omega)⟩ dX7_init_104 (fun r33 s33 q33 => ?_)
        obtain ⟨rfl, y33, z33, L33, F33⟩ := q33
        refine x_stk (st' := [.ref 36, .int (nI ((0 + 1) + 1)), .ref 31]) rfl ?_
        refine x_aastG (n := (0 + 1) + 1) (by decide) (F33.at (by omega) (Gz32.2.1.at (by omega) gw30)) y33 rfl (by simp only [List.length_replicate, List.length_set]; omega) dX7_init_107 (fun sw34 gw34 Fw34 Lw34 => ?_)
        refine x_iincN dX7_init_108 rfl (by decide) rfl ?_
        refine x_lv (lv' := [some (.ref 0), some (.int (nI (((0 + 1) + 1) + 1)))]) rfl ?_
        refine x_goto (tgt := 90) dX7_init_111 (by decide) ?_
        refine x_iload_n dX7_init_90 rfl ?_
        refine x_iconst (v := nI 4) dX7_init_91 (by decide) ?_
        refine x_icmpN_ge (tgt := 114) dX7_init_92 (by decide) (by omega) (by omega) (fun hv35 => ?_) (fun hv35 => ?_)
        · exact absurd hv35 (by omega)
        · refine x_aload_n dX7_init_95 rfl ?_
          refine x_get (v := .ref 31) f_X7_45 (Fw34.at (by omega) (F33.at (by omega) (Gz32.2.1.at (by omega) (Fw30.at (by omega) (F29.at (by omega) (Gz28.2.1.at (by omega) (Fw26.at (by omega) (F25.at (by omega) (Gz24.2.1.at (by omega) gw22))))))))) rfl dX7_init_96 ?_
          refine x_iload_n dX7_init_99 rfl ?_
          refine x_newG (kr := 0) (r := 38) k_X7_43 ((Lw34 _ _ _ L33).zq0 (by omega)) (Lw34 _ _ _ L33).zn0 (by omega) (by first | (show _ + 3 ≤ _; omega) | (simp only [List.length_cons, List.length_nil]; omega)) dX7_init_100 (fun sw36 Gz36 => ?_)
          refine x_dup dX7_init_103 rfl ?_
          refine x_callIN m_X6_init n_X7_57 (c_shInit (Gz36.2.2.1 _ rfl (Lw34 _ _ _ L33)) (by omega) (by omega) Gz36.1) (by omega) rfl rfl (Nat.le_of_ble_eq_true rfl) ⟨by omega, by first | omega | (simp only [List.length_cons, List.length_nil]; omega)⟩ dX7_init_104 (fun r37 s37 q37 => ?_)
          obtain ⟨rfl, y37, z37, L37, F37⟩ := q37
          refine x_stk (st' := [.ref 38, .int (nI (((0 + 1) + 1) + 1)), .ref 31]) rfl ?_
          refine x_aastG (n := ((0 + 1) + 1) + 1) (by decide) (F37.at (by omega) (Gz36.2.1.at (by omega) gw34)) y37 rfl (by simp only [List.length_replicate, List.length_set]; omega) dX7_init_107 (fun sw38 gw38 Fw38 Lw38 => ?_)
          refine x_iincN dX7_init_108 rfl (by decide) rfl ?_
          refine x_lv (lv' := [some (.ref 0), some (.int (nI ((((0 + 1) + 1) + 1) + 1)))]) rfl ?_
          refine x_goto (tgt := 90) dX7_init_111 (by decide) ?_
          refine x_iload_n dX7_init_90 rfl ?_
          refine x_iconst (v := nI 4) dX7_init_91 (by decide) ?_
          refine x_icmpN_ge (tgt := 114) dX7_init_92 (by decide) (by omega) (by omega) (fun hv39 => ?_) (fun hv39 => ?_)
          · exact x_vret ⟨by omega, by first | omega | (simp only [List.length_cons, List.length_nil]; omega)⟩ rfl dX7_init_114 ⟨rfl, (Fw38.at (by omega) (F37.at (by omega) (Gz36.2.1.at (by omega) (Fw34.at (by omega) (F33.at (by omega) (Gz32.2.1.at (by omega) (Fw30.at (by omega) (F29.at (by omega) (Gz28.2.1.at (by omega) (Fw26.at (by omega) (F25.at (by omega) (Gz24.2.1.at (by omega) gw22)))))))))))), ((((((((((((((((((((((((((((((((P2.fr Fw3 (by omega)).fr Gz4.2.1 (by omega)).fr F5 (by omega)).fr Fw6 (by omega)).fr Gz7.2.1 (by omega)).fr F8 (by omega)).fr Fw9 (by omega)).fr Gz10.2.1 (by omega)).fr F11 (by omega)).fr Fw12 (by omega)).fr Gz13.2.1 (by omega)).fr F14 (by omega)).fr Fw15 (by omega)).fr Gz16.2.1 (by omega)).fr F17 (by omega)).fr Fw18 (by omega)).fr Gz19.2.1 (by omega)).fr Fw20 (by omega)).fr Fw21 (by omega)).fr Fw22 (by omega)).fr Gz24.2.1 (by omega)).fr F25 (by omega)).fr Fw26 (by omega)).fr Gz28.2.1 (by omega)).fr F29 (by omega)).fr Fw30 (by omega)).fr Gz32.2.1 (by omega)).fr F33 (by omega)).fr Fw34 (by omega)).fr Gz36.2.1 (by omega)).fr F37 (by omega)).fr Fw38 (by omega)), (((((((((((((((((((((((((((((P5.fr Fw6 (by omega)).fr Gz7.2.1 (by omega)).fr F8 (by omega)).fr Fw9 (by omega)).fr Gz10.2.1 (by omega)).fr F11 (by omega)).fr Fw12 (by omega)).fr Gz13.2.1 (by omega)).fr F14 (by omega)).fr Fw15 (by omega)).fr Gz16.2.1 (by omega)).fr F17 (by omega)).fr Fw18 (by omega)).fr Gz19.2.1 (by omega)).fr Fw20 (by omega)).fr Fw21 (by omega)).fr Fw22 (by omega)).fr Gz24.2.1 (by omega)).fr F25 (by omega)).fr Fw26 (by omega)).fr Gz28.2.1 (by omega)).fr F29 (by omega)).fr Fw30 (by omega)).fr Gz32.2.1 (by omega)).fr F33 (by omega)).fr Fw34 (by omega)).fr Gz36.2.1 (by omega)).fr F37 (by omega)).fr Fw38 (by omega)), ((((((((((((((((((((((((((P8.fr Fw9 (by omega)).fr Gz10.2.1 (by omega)).fr F11 (by omega)).fr Fw12 (by omega)).fr Gz13.2.1 (by omega)).fr F14 (by omega)).fr Fw15 (by omega)).fr Gz16.2.1 (by omega)).fr F17 (by omega)).fr Fw18 (by omega)).fr Gz19.2.1 (by omega)).fr Fw20 (by omega)).fr Fw21 (by omega)).fr Fw22 (by omega)).fr Gz24.2.1 (by omega)).fr F25 (by omega)).fr Fw26 (by omega)).fr Gz28.2.1 (by omega)).fr F29 (by omega)).fr Fw30 (by omega)).fr Gz32.2.1 (by omega)).fr F33 (by omega)).fr Fw34 (by omega)).fr Gz36.2.1 (by omega)).fr F37 (by omega)).fr Fw38 (by omega)), ⟨(Fw38.at (by omega) (F37.at (by omega) (Gz36.2.1.at (by omega) (Fw34.at (by omega) (F33.at (by omega) (Gz32.2.1.at (by omega) (Fw30.at (by omega) (F29.at (by omega) (Gz28.2.1.at (by omega) (Fw26.at (by omega) (F25.at (by omega) (Gz24.2.1.at (by omega) (Fw22.at (by omega) (Fw21.at (by omega) (Fw20.at (by omega) (Gz19.2.1.at (by omega) (Fw18.at (by omega) (F17.at (by omega) (Gz16.2.1.at (by omega) (Fw15.at (by omega) (F14.at (by omega) (Gz13.2.1.at (by omega) (Fw12.at (by omega) m0_11))))))))))))))))))))))), (Fw38.at (by omega) (F37.at (by omega) (Gz36.2.1.at (by omega) (Fw34.at (by omega) (F33.at (by omega) (Gz32.2.1.at (by omega) (Fw30.at (by omega) (F29.at (by omega) (Gz28.2.1.at (by omega) (Fw26.at (by omega) (F25.at (by omega) (Gz24.2.1.at (by omega) (Fw22.at (by omega) (Fw21.at (by omega) (Fw20.at (by omega) (Gz19.2.1.at (by omega) (Fw18.at (by omega) (F17.at (by omega) (Gz16.2.1.at (by omega) (Fw15.at (by omega) (F14.at (by omega) (Gz13.2.1.at (by omega) (Fw12.at (by omega) m1_11))))))))))))))))))))))), (Fw38.at (by omega) (F37.at (by omega) (Gz36.2.1.at (by omega) (Fw34.at (by omega) (F33.at (by omega) (Gz32.2.1.at (by omega) (Fw30.at (by omega) (F29.at (by omega) (Gz28.2.1.at (by omega) (Fw26.at (by omega) (F25.at (by omega) (Gz24.2.1.at (by omega) (Fw22.at (by omega) (Fw21.at (by omega) (Fw20.at (by omega) (Gz19.2.1.at (by omega) (Fw18.at (by omega) (F17.at (by omega) (Gz16.2.1.at (by omega) (Fw15.at (by omega) (F14.at (by omega) (Gz13.2.1.at (by omega) (Fw12.at (by omega) m2_11))))))))))))))))))))))), (Fw38.at (by omega) (F37.at (by omega) (Gz36.2.1.at (by omega) (Fw34.at (by omega) (F33.at (by omega) (Gz32.2.1.at (by omega) (Fw30.at (by omega) (F29.at (by omega) (Gz28.2.1.at (by omega) (Fw26.at (by omega) (F25.at (by omega) (Gz24.2.1.at (by omega) (Fw22.at (by omega) (Fw21.at (by omega) (Fw20.at (by omega) (Gz19.2.1.at (by omega) (Fw18.at (by omega) (F17.at (by omega) (Gz16.2.1.at (by omega) (Fw15.at (by omega) (F14.at (by omega) (Gz13.2.1.at (by omega) (Fw12.at (by omega) m3_11))))))))))))))))))))))), (Fw38.at (by omega) (F37.at (by omega) (Gz36.2.1.at (by omega) (Fw34.at (by omega) (F33.at (by omega) (Gz32.2.1.at (by omega) (Fw30.at (by omega) (F29.at (by omega) (Gz28.2.1.at (by omega) (Fw26.at (by omega) (F25.at (by omega) (Gz24.2.1.at (by omega) (Fw22.at (by omega) (Fw21.at (by omega) (Fw20.at (by omega) (Gz19.2.1.at (by omega) (Fw18.at (by omega) (F17.at (by omega) (Gz16.2.1.at (by omega) (Fw15.at (by omega) (F14.at (by omega) (Gz13.2.1.at (by omega) (Fw12.at (by omega) m4_11))))))))))))))))))))))), (Fw38.at (by omega) (F37.at (by omega) (Gz36.2.1.at (by omega) (Fw34.at (by omega) (F33.at (by omega) (Gz32.2.1.at (by omega) (Fw30.at (by omega) (F29.at (by omega) (Gz28.2.1.at (by omega) (Fw26.at (by omega) (F25.at (by omega) (Gz24.2.1.at (by omega) (Fw22.at (by omega) (Fw21.at (by omega) (Fw20.at (by omega) (Gz19.2.1.at (by omega) (Fw18.at (by omega) (F17.at (by omega) (Gz16.2.1.at (by omega) (Fw15.at (by omega) (F14.at (by omega) (Gz13.2.1.at (by omega) (Fw12.at (by omega) m5_11)))))))))))))))))))))))⟩, ((((((((((((((((((((S14.fr Fw15 (by omega)).fr Gz16.2.1 (by omega)).fr F17 (by omega)).fr Fw18 (by omega)).fr Gz19.2.1 (by omega)).fr Fw20 (by omega)).fr Fw21 (by omega)).fr Fw22 (by omega)).fr Gz24.2.1 (by omega)).fr F25 (by omega)).fr Fw26 (by omega)).fr Gz28.2.1 (by omega)).fr F29 (by omega)).fr Fw30 (by omega)).fr Gz32.2.1 (by omega)).fr F33 (by omega)).fr Fw34 (by omega)).fr Gz36.2.1 (by omega)).fr F37 (by omega)).fr Fw38 (by omega)), (((((((((((((((((R17.fr Fw18 (by omega)).fr Gz19.2.1 (by omega)).fr Fw20 (by omega)).fr Fw21 (by omega)).fr Fw22 (by omega)).fr Gz24.2.1 (by omega)).fr F25 (by omega)).fr Fw26 (by omega)).fr Gz28.2.1 (by omega)).fr F29 (by omega)).fr Fw30 (by omega)).fr Gz32.2.1 (by omega)).fr F33 (by omega)).fr Fw34 (by omega)).fr Gz36.2.1 (by omega)).fr F37 (by omega)).fr Fw38 (by omega)), ⟨gw38, fun i hi => by
    rcases (show i = 0 ∨ i = 1 ∨ i = 2 ∨ i = 3 by omega) with rfl | rfl | rfl | rfl
    · exact ⟨(Fw38.at (by omega) (F37.at (by omega) (Gz36.2.1.at (by omega) (Fw34.at (by omega) (F33.at (by omega) (Gz32.2.1.at (by omega) (Fw30.at (by omega) (F29.at (by omega) (Gz28.2.1.at (by omega) (Fw26.at (by omega) y25)))))))))), (Fw38.at (by omega) (F37.at (by omega) (Gz36.2.1.at (by omega) (Fw34.at (by omega) (F33.at (by omega) (Gz32.2.1.at (by omega) (Fw30.at (by omega) (F29.at (by omega) (Gz28.2.1.at (by omega) (Fw26.at (by omega) z25))))))))))⟩
    · exact ⟨(Fw38.at (by omega) (F37.at (by omega) (Gz36.2.1.at (by omega) (Fw34.at (by omega) (F33.at (by omega) (Gz32.2.1.at (by omega) (Fw30.at (by omega) y29))))))), (Fw38.at (by omega) (F37.at (by omega) (Gz36.2.1.at (by omega) (Fw34.at (by omega) (F33.at (by omega) (Gz32.2.1.at (by omega) (Fw30.at (by omega) z29)))))))⟩
    · exact ⟨(Fw38.at (by omega) (F37.at (by omega) (Gz36.2.1.at (by omega) (Fw34.at (by omega) y33)))), (Fw38.at (by omega) (F37.at (by omega) (Gz36.2.1.at (by omega) (Fw34.at (by omega) z33))))⟩
    · exact ⟨(Fw38.at (by omega) y37), (Fw38.at (by omega) z37)⟩⟩, (Lw38 _ _ _ L37)⟩
          · exact absurd hv39 (by omega)
