/-! the reference's table: what is asked, forgiven, lent -/
def FrS (a a' : Nat → Int32) : Prop := ∀ k, ¬ (15 ≤ k ∧ k ≤ 29) → a' k = a k
theorem FrS.rf {a : Nat → Int32} : FrS a a := fun _ _ => rfl
theorem FrS.tr {a a' a'' : Nat → Int32} (h : FrS a a') (h' : FrS a' a'') : FrS a a'' := fun k hk => (h' k hk).trans (h k hk)
theorem FrS.up {a a' : Nat → Int32} (h : FrS a a') {j : Nat} {v : Int32} (hj : 15 ≤ j ∧ j ≤ 29) : FrS a (up a' j v) := fun k hk => (up_ne a' v (fun q => hk (by rw [q]; exact hj))).trans (h k hk)
theorem FrB.S {a a' : Nat → Int32} (h : FrB a a') : FrS a a' := fun k hk => h k (fun q => hk (by omega))
def Fb (r : Nat) (b b' : Nat → List Int32) : Prop := ∀ j, j ≠ r → b' j = b j
theorem Fb.rf {r : Nat} {b : Nat → List Int32} : Fb r b b := fun _ _ => rfl
theorem Fb.tr {r : Nat} {b b' b'' : Nat → List Int32} (h : Fb r b b') (h' : Fb r b' b'') : Fb r b b'' := fun k hk => (h' k hk).trans (h k hk)
theorem Fb.ups {r : Nat} {b : Nat → List Int32} {l : List Int32} : Fb r b (up b r l) := fun k hk => up_ne _ _ hk
theorem Fb.up2 {r : Nat} {b b' : Nat → List Int32} {l : List Int32} (h : Fb r b b') : Fb r b (up b' r l) := h.tr Fb.ups
/-- the text ru of the reference is L -/
def RT (a : Nat → Int32) (b : Nat → List Int32) (ru : Nat) (L S : List Nat) (lf jf : Nat) : Prop := a 4 = nI ru ∧ ru < 6 ∧ L.length ≤ 160 ∧ (b 1).getD ru 0 = nI L.length ∧ (∀ i, i < L.length → (b 0).getD (ru * 160 + i) 0 = nI (L.getD i 0)) ∧ (∀ i, L.getD i 0 ≤ 255) ∧ pText L = .inr (S, lf, jf)
/-- the reference's people, text, table -/
def TW (a : Nat → Int32) (b : Nat → List Int32) (rr n : Nat) (K N : List Nat) (W : List Int32) (D : List Nat) (fr : Int32) (ru : Nat) (L S : List Nat) (lf jf m : Nat) (t : List Nat) : Prop := RC a b rr n K N W D fr ∧ RT a b ru L S lf jf ∧ a 31 = nI m ∧ m ≤ 7 ∧ (∀ i, i < m → (b 7).getD i 0 = nI (t.getD i 0)) ∧ T7 t ∧ (∀ i, i < m → t.getD i 0 < n)
section TWs
variable {a a' : Nat → Int32} {b b' : Nat → List Int32} {rr n : Nat} {K N : List Nat} {W : List Int32} {D D' : List Nat} {f9 : Int32} {ru : Nat} {L S : List Nat} {lf jf m : Nat} {t : List Nat}
theorem RC.fr (h : RC a b rr n K N W D f9) (hA : FrS a a') : RC a' b rr n K N W D f9 := by
  obtain ⟨c7, hrr, c13, hn7, c14, r⟩ := h
  exact ⟨(hA 7 (by omega)).trans c7, hrr, (hA 13 (by omega)).trans c13, hn7, (hA 14 (by omega)).trans c14, r⟩
theorem RT.fr (h : RT a b ru L S lf jf) (hA : FrS a a') : RT a' b ru L S lf jf := ⟨(hA 4 (by omega)).trans h.1, h.2⟩
theorem TW.fr (h : TW a b rr n K N W D f9 ru L S lf jf m t) (hA : FrS a a') : TW a' b rr n K N W D f9 ru L S lf jf m t := by
  obtain ⟨hC, hT, c31, r⟩ := h
  exact ⟨hC.fr hA, hT.fr hA, (hA 31 (by omega)).trans c31, r⟩
theorem RC.setD (h : RC a b rr n K N W D f9) (hb : Fb 6 b b') (h6 : b' 6 = D'.map nI) (hD : D49 D') : RC a b' rr n K N W D' f9 := by
  obtain ⟨c7, hrr, c13, hn7, c14, cK, cN, cW, cD, hN7, hW7, hD49, hK5, hN9, hD999⟩ := h
  exact ⟨c7, hrr, c13, hn7, c14, fun i hi => by rw [hb 3 (by decide)]; exact cK i hi, by rw [hb 4 (by decide)]; exact cN, by rw [hb 5 (by decide)]; exact cW, h6, hN7, hW7, hD.1, hK5, hN9, hD.2⟩
theorem RT.setB (h : RT a b ru L S lf jf) (h0 : b' 0 = b 0) (h1 : b' 1 = b 1) : RT a b' ru L S lf jf := by
  obtain ⟨h4, h6, hl, h8, h9, h10⟩ := h
  exact ⟨h4, h6, hl, by rw [h1]; exact h8, fun i hi => by rw [h0]; exact h9 i hi, h10⟩
theorem TW.setD (h : TW a b rr n K N W D f9 ru L S lf jf m t) (hb : Fb 6 b b') (h6 : b' 6 = D'.map nI) (hD : D49 D') : TW a b' rr n K N W D' f9 ru L S lf jf m t := by
  obtain ⟨hC, hT, c31, hm, cT, r⟩ := h
  exact ⟨hC.setD hb h6 hD, hT.setB (hb 0 (by decide)) (hb 1 (by decide)), c31, hm, by rw [hb 7 (by decide)]; exact cT, r⟩
theorem TW.D9 (h : TW a b rr n K N W D f9 ru L S lf jf m t) : D49 D := by
  obtain ⟨⟨c7, hrr, c13, hn7, c14, cK, cN, cW, cD, hN7, hW7, hD49, hK5, hN9, hD999⟩, -⟩ := h
  exact ⟨hD49, hD999⟩
end TWs
/-- what a part of the rule says -/
def askV (wh : Nat) (F : List Int32) (S : List Nat) (lf jf : Nat) : Int32 := if wh = 0 then tellV F S 0 lf (nI 0) else if wh = 1 then tellV F S lf jf (nI 0) else tellV F S jf S.length (-99)
theorem seg_run {F : List Int32} {S s : List Nat} {f0 t0 : Nat} (h : segE S f0 (t0 - f0) = s) (g : gd s) : (runE F (segE S f0 (t0 - f0))).getLastD 0 = vE F s := by
  rw [h, runE, g.2.v]
  rfl
theorem seg1 {s1 s2 s3 : List Nat} : segE (s1 ++ s2 ++ s3) 0 (s1.length - 0) = s1 := by simp [segE]
theorem seg2 {s1 s2 s3 : List Nat} : segE (s1 ++ s2 ++ s3) s1.length ((s1 ++ s2).length - s1.length) = s2 := by simp [segE]
theorem seg3 {s1 s2 s3 : List Nat} : segE (s1 ++ s2 ++ s3) (s1 ++ s2).length ((s1 ++ s2 ++ s3).length - (s1 ++ s2).length) = s3 := by
  rw [segE, List.drop_left, List.take_of_length_le]
  simp
  omega
theorem ask_eq {S s1 s2 s3 : List Nat} {lf jf wh : Nat} (e1 : S = s1 ++ s2 ++ s3) (e2 : lf = s1.length) (e3 : jf = (s1 ++ s2).length) (g1 : gd s1) (g2 : gd s2) (g3 : gd s3) (hwh : wh ≤ 2) (F : List Int32) : bndI (if wh = 0 then vE F s1 else if wh = 1 then vE F s2 else vE F s3) (if wh = 2 then (-99) else nI 0) (nI 99) = askV wh F S lf jf := by
  subst e1 e2 e3
  unfold askV tellV
  rcases (show wh = 0 ∨ wh = 1 ∨ wh = 2 by omega) with rfl | rfl | rfl
  · rw [if_pos rfl, if_pos rfl, if_neg (by decide), seg_run seg1 g1]
  · rw [if_neg (by decide), if_pos rfl, if_neg (by decide), if_neg (by decide), if_pos rfl, seg_run seg2 g2]
  · rw [if_neg (by decide), if_neg (by decide), if_pos rfl, if_neg (by decide), if_neg (by decide), seg_run seg3 g3]
theorem bnd_mn9 {w d : Nat} (hw : w < 2147483648) (hd : d < 2147483648) : bndI (nI w) (nI 0) (nI d) = nI (min w d) := by
  unfold bndI
  rw [if_neg (fun q => by have := Int32.lt_iff_toInt_lt.mp q; rw [tI_nI hw, tI_nI (by omega)] at this; omega)]
  by_cases h : d < w
  · rw [if_pos (Int32.lt_iff_toInt_lt.mpr (by rw [tI_nI hw, tI_nI hd]; omega)), Nat.min_eq_right (by omega)]
  · rw [if_neg (fun q => by have := Int32.lt_iff_toInt_lt.mp q; rw [tI_nI hw, tI_nI hd] at this; omega), Nat.min_eq_left (by omega)]
theorem r_withinN {σ : ZS} {w d : Nat} (hw : w < 2147483648) (hd : d < 2147483648) : Cn 0 M_X8_within 0 0 [.int (nI w), .int (nI 0), .int (nI d)] σ (fun r9 σ' => r9 = some (.int (nI (min w d))) ∧ σ' = σ) :=
  (r_within (nI w) (nI 0) (nI d)).mono (fun r9 σ' h => ⟨by rw [h.1, bnd_mn9 hw hd], h.2⟩)
def clN (y : Int) : Nat := if y < 0 then 0 else if 999 < y then 999 else y.toNat
theorem clN_le (y : Int) : clN y ≤ 999 := by unfold clN; (repeat' split) <;> omega
theorem bm32 {x : Int} (h1 : -2147483648 ≤ x) (h2 : x < 2147483648) : x.bmod (2 ^ 32) = x := by
  rw [Int.bmod_def]
  omega
theorem bnd_cl {d : Nat} {v : Int32} {x : Int} (hd : d ≤ 999) (hv : v.toInt = x) (h1 : -2000 ≤ x) (h2 : x ≤ 2000) : bndI (nI d + v) (nI 0) (nI 999) = nI (clN ((d : Int) + x)) := by
  have e : (nI d + v).toInt = (d : Int) + x := by rw [Int32.toInt_add, tI_nI (by omega), hv, bm32 (by omega) (by omega)]
  unfold bndI clN
  by_cases c1 : nI d + v < nI 0
  · have e1 := Int32.lt_iff_toInt_lt.mp c1
    rw [e, tI_nI (by omega)] at e1
    rw [if_pos c1, if_pos (by omega)]
  · have e1 := mt Int32.lt_iff_toInt_lt.mpr c1
    rw [e, tI_nI (by omega)] at e1
    rw [if_neg c1, if_neg (show ¬ (d : Int) + x < 0 by omega)]
    by_cases c2 : nI 999 < nI d + v
    · have e2 := Int32.lt_iff_toInt_lt.mp c2
      rw [e, tI_nI (by omega)] at e2
      rw [if_pos c2, if_pos (show 999 < (d : Int) + x by omega)]
    · have e2 := mt Int32.lt_iff_toInt_lt.mpr c2
      rw [e, tI_nI (by omega)] at e2
      rw [if_neg c2, if_neg (show ¬ 999 < (d : Int) + x by omega), ← e]
      exact ni_of (by omega)
theorem neg_nI {w : Nat} (h : w ≤ 2000) : (-(nI w)).toInt = -((w : Nat) : Int) := by
  rw [Int32.toInt_neg, tI_nI (by omega), bm32 (by omega) (by omega)]
theorem fgD_cl {S : List Nat} {lf : Nat} {K N : List Nat} {W : List Int32} {one nb seat size : Nat} {D : List Nat} (hD : ∀ k, D.getD k 0 ≤ 999) : fgD S lf K N W one nb seat size D = D.set (nb * 7 + one) (clN (((D.getD (nb * 7 + one) 0 : Nat) : Int) + -((min (letsS (K.getD one 0) (N.getD one 0) (D.getD (nb * 7 + one) 0) (tellN (factsL N W one nb seat size D) S 0 lf)) (D.getD (nb * 7 + one) 0) : Nat) : Int))) := by
  unfold fgD
  congr 1
  have := hD (nb * 7 + one)
  generalize D.getD (nb * 7 + one) 0 = x at *
  unfold clN
  (repeat' split) <;> omega
theorem ldD_cl {S : List Nat} {lf jf : Nat} {K N : List Nat} {W : List Int32} {one nb seat size : Nat} {D : List Nat} : ldD S lf jf K N W one nb seat size D = D.set (nb * 7 + one) (clN (((D.getD (nb * 7 + one) 0 : Nat) : Int) + ((lendS (K.getD one 0) (N.getD one 0) (tellN (factsL N W one nb seat size D) S lf jf) : Nat) : Int))) := by
  unfold ldD
  congr 1
  generalize D.getD (nb * 7 + one) 0 = x
  unfold clN
  (repeat' split) <;> omega
theorem lendS_b9 {k nu v : Nat} (hn : nu ≤ 9) (hv : v ≤ 99) : lendS k nu v ≤ 108 := by unfold lendS; (repeat' split) <;> omega
set_option maxHeartbeats 4000000 in
theorem r_asks {σ0 σ : ZS} {a : Nat → Int32} {tw : Int64} {b : Nat → List Int32} {rr n : Nat} {K N : List Nat} {W : List Int32} {D : List Nat} {fr : Int32} {ru : Nat} {L S : List Nat} {lf jf m : Nat} {t : List Nat} (hR : RM σ0 σ a tw b) (hW : TW a b rr n K N W D fr ru L S lf jf m t) {x y : Nat} (hx : x < m) (hy : y < m) {wh : Nat} (hwh : wh ≤ 2) : Cn 160 M_X8_asks 0 0 [.ref 1000, .int (nI wh), .int (nI x), .int (nI y)] σ (fun r9 σ' => ∃ (a' : Nat → Int32) (tw' : Int64), r9 = some (.int (askV wh (factsL N W (t.getD x 0) (t.getD y 0) x m D) S lf jf)) ∧ RM σ0 σ' a' tw' b ∧ FrS a a') := by
  obtain ⟨hC, hT, c31, hm, cT, ht, hTn⟩ := id hW
  obtain ⟨c7, hrr, c13, hn7, c14, cK, cN, cW, cD, hN7, hW7, hD49, hK5, hN9, hD999⟩ := id hC
  obtain ⟨ht7, htb⟩ := id ht
  have hx7 := htb x
  have hy7 := htb y
  have hxn := hTn x hx
  have hyn := hTn y hy
  refine Cn.intro (lv0 := [some (.ref 1000), some (.int (nI wh)), some (.int (nI x)), some (.int (nI y)), none, none]) rfl (Nat.le_of_ble_eq_true rfl) rfl (fun d hd => ?_)
  refine x_aload_n dX8_asks_0 rfl ?_
  refine x_rget f_X8_41 hR rfl dX8_asks_1 ?_
  refine x_iload_n dX8_asks_4 rfl ?_
  refine x_rald (j := 7) (n := x) hR rfl (by decide) rfl rfl (rlt hR (m := 7) (by decide) rfl (by omega)) dX8_asks_5 ?_
  refine x_topi (y := nI ((t.getD x 0))) (cT _ (by omega)) ?_
  refine x_istore dX8_asks_6 (by decide) rfl ?_
  refine x_lv (lv' := [some (.ref 1000), some (.int (nI wh)), some (.int (nI x)), some (.int (nI y)), some (.int (nI ((t.getD x 0)))), none]) rfl ?_
  refine x_aload_n dX8_asks_8 rfl ?_
  refine x_rget f_X8_41 hR rfl dX8_asks_9 ?_
  refine x_iload_n dX8_asks_12 rfl ?_
  refine x_rald (j := 7) (n := y) hR rfl (by decide) rfl rfl (rlt hR (m := 7) (by decide) rfl (by omega)) dX8_asks_13 ?_
  refine x_topi (y := nI ((t.getD y 0))) (cT _ (by omega)) ?_
  refine x_istore dX8_asks_14 (by decide) rfl ?_
  refine x_lv (lv' := [some (.ref 1000), some (.int (nI wh)), some (.int (nI x)), some (.int (nI y)), some (.int (nI ((t.getD x 0)))), some (.int (nI ((t.getD y 0))))]) rfl ?_
  refine x_aload_n dX8_asks_16 rfl ?_
  refine x_aload_n dX8_asks_17 rfl ?_
  refine x_rget f_X8_35 hR rfl dX8_asks_18 ?_
  refine x_bipush (v := nI 7) dX8_asks_21 (by decide) ?_
  refine x_iload dX8_asks_23 rfl ?_
  refine x_imulN dX8_asks_25 ?_
  refine x_topi (y := nI (((t.getD y 0)) * 7)) (by rw [Nat.mul_comm]) ?_
  refine x_iload dX8_asks_26 rfl ?_
  refine x_iaddN dX8_asks_28 ?_
  refine x_rald (j := 6) (n := (((t.getD y 0)) * 7) + ((t.getD x 0))) hR rfl (by decide) rfl rfl (rlt hR (m := 49) (by decide) rfl (by omega)) dX8_asks_29 ?_
  refine x_topi (y := nI ((D.getD ((((t.getD y 0)) * 7) + ((t.getD x 0))) 0))) (rgN cD) ?_
  refine x_rput (up a 15 (nI ((D.getD ((((t.getD y 0)) * 7) + ((t.getD x 0))) 0)))) tw f_X8_194 hR (by decide) rfl (fun c => ⟨rfl, rfl⟩) dX8_asks_30 (fun sw1 Rw1 => ?_)
  refine x_aload_n dX8_asks_33 rfl ?_
  refine x_aload_n dX8_asks_34 rfl ?_
  refine x_rget f_X8_35 Rw1 rfl dX8_asks_35 ?_
  refine x_bipush (v := nI 7) dX8_asks_38 (by decide) ?_
  refine x_iload dX8_asks_40 rfl ?_
  refine x_imulN dX8_asks_42 ?_
  refine x_topi (y := nI (((t.getD x 0)) * 7)) (by rw [Nat.mul_comm]) ?_
  refine x_iload dX8_asks_43 rfl ?_
  refine x_iaddN dX8_asks_45 ?_
  refine x_rald (j := 6) (n := (((t.getD x 0)) * 7) + ((t.getD y 0))) Rw1 rfl (by decide) rfl rfl (rlt Rw1 (m := 49) (by decide) rfl (by omega)) dX8_asks_46 ?_
  refine x_topi (y := nI ((D.getD ((((t.getD x 0)) * 7) + ((t.getD y 0))) 0))) (rgN cD) ?_
  refine x_rput (up (up a 15 (nI ((D.getD ((((t.getD y 0)) * 7) + ((t.getD x 0))) 0)))) 16 (nI ((D.getD ((((t.getD x 0)) * 7) + ((t.getD y 0))) 0)))) tw f_X8_197 Rw1 (by decide) rfl (fun c => ⟨rfl, rfl⟩) dX8_asks_47 (fun sw2 Rw2 => ?_)
  refine x_aload_n dX8_asks_50 rfl ?_
  refine x_aload_n dX8_asks_51 rfl ?_
  refine x_rget f_X8_29 Rw2 rfl dX8_asks_52 ?_
  refine x_iload dX8_asks_55 rfl ?_
  refine x_rald (j := 4) (n := (t.getD x 0)) Rw2 rfl (by decide) rfl rfl (rlt Rw2 (m := 7) (by decide) rfl (by omega)) dX8_asks_57 ?_
  refine x_topi (y := nI ((N.getD ((t.getD x 0)) 0))) (rgN cN) ?_
  refine x_rput (up (up (up a 15 (nI ((D.getD ((((t.getD y 0)) * 7) + ((t.getD x 0))) 0)))) 16 (nI ((D.getD ((((t.getD x 0)) * 7) + ((t.getD y 0))) 0)))) 17 (nI ((N.getD ((t.getD x 0)) 0)))) tw f_X8_200 Rw2 (by decide) rfl (fun c => ⟨rfl, rfl⟩) dX8_asks_58 (fun sw3 Rw3 => ?_)
  refine x_aload_n dX8_asks_61 rfl ?_
  refine x_aload_n dX8_asks_62 rfl ?_
  refine x_rget (v := .int (nI m)) f_X8_255 Rw3 (rg c31) dX8_asks_63 ?_
  refine x_rput (up (up (up (up a 15 (nI ((D.getD ((((t.getD y 0)) * 7) + ((t.getD x 0))) 0)))) 16 (nI ((D.getD ((((t.getD x 0)) * 7) + ((t.getD y 0))) 0)))) 17 (nI ((N.getD ((t.getD x 0)) 0)))) 18 (nI m)) tw f_X8_203 Rw3 (by decide) rfl (fun c => ⟨rfl, rfl⟩) dX8_asks_66 (fun sw4 Rw4 => ?_)
  refine x_aload_n dX8_asks_69 rfl ?_
  refine x_iload_n dX8_asks_70 rfl ?_
  refine x_rput (up (up (up (up (up a 15 (nI ((D.getD ((((t.getD y 0)) * 7) + ((t.getD x 0))) 0)))) 16 (nI ((D.getD ((((t.getD x 0)) * 7) + ((t.getD y 0))) 0)))) 17 (nI ((N.getD ((t.getD x 0)) 0)))) 18 (nI m)) 19 (nI x)) tw f_X8_206 Rw4 (by decide) rfl (fun c => ⟨rfl, rfl⟩) dX8_asks_71 (fun sw5 Rw5 => ?_)
  refine x_aload_n dX8_asks_74 rfl ?_
  refine x_aload_n dX8_asks_75 rfl ?_
  refine x_rget f_X8_32 Rw5 rfl dX8_asks_76 ?_
  refine x_iload dX8_asks_79 rfl ?_
  refine x_rald (j := 5) (n := (t.getD x 0)) Rw5 rfl (by decide) rfl rfl (rlt Rw5 (m := 7) (by decide) rfl (by omega)) dX8_asks_81 ?_
  refine x_topi (y := (W.getD ((t.getD x 0)) 0)) (rgD cW) ?_
  refine x_iload dX8_asks_82 rfl ?_
  refine x_icmpT_ne (p := ((W.getD ((t.getD x 0)) 0)).toInt) (q := (((t.getD y 0) : Nat) : Int)) (tgt := 91) rfl (nI_toInt (by omega)) dX8_asks_84 (by decide) (fun hv6 => ?_) (fun hv6 => ?_)
  · refine x_iconst (v := nI 0) dX8_asks_91 (by decide) ?_
    refine x_rput (up (up (up (up (up (up a 15 (nI ((D.getD ((((t.getD y 0)) * 7) + ((t.getD x 0))) 0)))) 16 (nI ((D.getD ((((t.getD x 0)) * 7) + ((t.getD y 0))) 0)))) 17 (nI ((N.getD ((t.getD x 0)) 0)))) 18 (nI m)) 19 (nI x)) 20 (nI 0)) tw f_X8_209 Rw5 (by decide) rfl (fun c => ⟨rfl, rfl⟩) dX8_asks_92 (fun sw7 Rw7 => ?_)
    have hF9 : FF (up (up (up (up (up (up a 15 (nI ((D.getD ((((t.getD y 0)) * 7) + ((t.getD x 0))) 0)))) 16 (nI ((D.getD ((((t.getD x 0)) * 7) + ((t.getD y 0))) 0)))) 17 (nI ((N.getD ((t.getD x 0)) 0)))) 18 (nI m)) 19 (nI x)) 20 (nI 0)) (factsL N W (t.getD x 0) (t.getD y 0) x m D) := by
      intro j hj
      rcases (show j = 0 ∨ j = 1 ∨ j = 2 ∨ j = 3 ∨ j = 4 ∨ j = 5 by omega) with rfl | rfl | rfl | rfl | rfl | rfl
      · exact rfl
      · exact rfl
      · exact rfl
      · exact rfl
      · exact rfl
      · exact (bI_0 (fun q => hv6 (by rw [q, tI_nI (by omega)]))).symm
    refine x_aload_n dX8_asks_95 rfl ?_
    refine x_aload_n dX8_asks_96 rfl ?_
    refine x_rget (v := .int (nI ru)) f_X8_252 Rw7 (rg hT.1) dX8_asks_97 ?_
    refine x_iload_n dX8_asks_100 rfl ?_
    refine x_callV m_X8_read l_X8_249 (r_read Rw7 hF9 hT.2.1 hwh hT.2.2.1 hT.2.2.2.1 hT.2.2.2.2.1 hT.2.2.2.2.2.1) rfl Rw7.2.1 (by omega) rfl rfl (Nat.le_of_ble_eq_true rfl) ⟨Nat.le_refl _, Nat.le_refl _⟩ dX8_asks_101 (fun r8 s8 q8 => ?_)
    obtain ⟨v8, a8, tw8, rfl, R8, A98, hq8⟩ := q8
    rw [hT.2.2.2.2.2.2] at hq8
    obtain ⟨t288, s1, s2, s3, e1, e2, e3, g1, g2, g3, hv8⟩ := hq8
    have A8 := A98.S
    refine x_stk (st' := [.int v8]) rfl ?_
    refine x_iload_n dX8_asks_104 rfl ?_
    refine x_iconst (v := nI 2) dX8_asks_105 (by decide) ?_
    refine x_icmpN_ne (tgt := 114) dX8_asks_106 (by decide) (by omega) (by omega) (fun hv9 => ?_) (fun hv9 => ?_)
    · refine x_iconst (v := nI 0) dX8_asks_114 (by decide) ?_
      refine x_bipush (v := nI 99) dX8_asks_115 (by decide) ?_
      refine x_callS m_X8_within l_X8_258 (r_within _ _ _) (by omega) rfl rfl (Nat.le_of_ble_eq_true rfl) ⟨Nat.le_refl _, Nat.le_refl _⟩ dX8_asks_117 (fun r10 s10 q10 => ?_)
      obtain ⟨rfl, eq10⟩ := q10
      obtain rfl := eq10.symm
      refine x_stk (st' := [.int ((bndI v8 (nI 0) (nI 99)))]) rfl ?_
      exact x_iret ⟨Nat.le_refl _, Nat.le_refl _⟩ rfl dX8_asks_120 ⟨_, _, (by have e9 := ask_eq (lf := lf) (jf := jf) e1 e2 e3 g1 g2 g3 hwh (factsL N W (t.getD x 0) (t.getD y 0) x m D); rw [← hv8, if_neg (by omega)] at e9; rw [e9]), R8, (((((((FrS.rf.up (by omega)).up (by omega)).up (by omega)).up (by omega)).up (by omega)).up (by omega)).tr A8)⟩
    · refine x_bipush (v := (-99)) dX8_asks_109 (by decide) ?_
      refine x_goto (tgt := 115) dX8_asks_111 (by decide) ?_
      refine x_bipush (v := nI 99) dX8_asks_115 (by decide) ?_
      refine x_callS m_X8_within l_X8_258 (r_within _ _ _) (by omega) rfl rfl (Nat.le_of_ble_eq_true rfl) ⟨Nat.le_refl _, Nat.le_refl _⟩ dX8_asks_117 (fun r11 s11 q11 => ?_)
      obtain ⟨rfl, eq11⟩ := q11
      obtain rfl := eq11.symm
      refine x_stk (st' := [.int ((bndI v8 ((-99)) (nI 99)))]) rfl ?_
      exact x_iret ⟨Nat.le_refl _, Nat.le_refl _⟩ rfl dX8_asks_120 ⟨_, _, (by have e9 := ask_eq (lf := lf) (jf := jf) e1 e2 e3 g1 g2 g3 hwh (factsL N W (t.getD x 0) (t.getD y 0) x m D); rw [← hv8, if_pos (by omega)] at e9; rw [e9]), R8, (((((((FrS.rf.up (by omega)).up (by omega)).up (by omega)).up (by omega)).up (by omega)).up (by omega)).tr A8)⟩
  · refine x_iconst (v := nI 1) dX8_asks_87 (by decide) ?_
    refine x_goto (tgt := 92) dX8_asks_88 (by decide) ?_
    refine x_rput (up (up (up (up (up (up a 15 (nI ((D.getD ((((t.getD y 0)) * 7) + ((t.getD x 0))) 0)))) 16 (nI ((D.getD ((((t.getD x 0)) * 7) + ((t.getD y 0))) 0)))) 17 (nI ((N.getD ((t.getD x 0)) 0)))) 18 (nI m)) 19 (nI x)) 20 (nI 1)) tw f_X8_209 Rw5 (by decide) rfl (fun c => ⟨rfl, rfl⟩) dX8_asks_92 (fun sw12 Rw12 => ?_)
    have hF9 : FF (up (up (up (up (up (up a 15 (nI ((D.getD ((((t.getD y 0)) * 7) + ((t.getD x 0))) 0)))) 16 (nI ((D.getD ((((t.getD x 0)) * 7) + ((t.getD y 0))) 0)))) 17 (nI ((N.getD ((t.getD x 0)) 0)))) 18 (nI m)) 19 (nI x)) 20 (nI 1)) (factsL N W (t.getD x 0) (t.getD y 0) x m D) := by
      intro j hj
      rcases (show j = 0 ∨ j = 1 ∨ j = 2 ∨ j = 3 ∨ j = 4 ∨ j = 5 by omega) with rfl | rfl | rfl | rfl | rfl | rfl
      · exact rfl
      · exact rfl
      · exact rfl
      · exact rfl
      · exact rfl
      · exact (bI_1 (Int32.toInt_inj.mp (by rw [tI_nI (by omega)]; omega))).symm
    refine x_aload_n dX8_asks_95 rfl ?_
    refine x_aload_n dX8_asks_96 rfl ?_
    refine x_rget (v := .int (nI ru)) f_X8_252 Rw12 (rg hT.1) dX8_asks_97 ?_
    refine x_iload_n dX8_asks_100 rfl ?_
    refine x_callV m_X8_read l_X8_249 (r_read Rw12 hF9 hT.2.1 hwh hT.2.2.1 hT.2.2.2.1 hT.2.2.2.2.1 hT.2.2.2.2.2.1) rfl Rw12.2.1 (by omega) rfl rfl (Nat.le_of_ble_eq_true rfl) ⟨Nat.le_refl _, Nat.le_refl _⟩ dX8_asks_101 (fun r13 s13 q13 => ?_)
    obtain ⟨v13, a13, tw13, rfl, R13, A913, hq13⟩ := q13
    rw [hT.2.2.2.2.2.2] at hq13
    obtain ⟨t2813, s1, s2, s3, e1, e2, e3, g1, g2, g3, hv13⟩ := hq13
    have A13 := A913.S
    refine x_stk (st' := [.int v13]) rfl ?_
    refine x_iload_n dX8_asks_104 rfl ?_
    refine x_iconst (v := nI 2) dX8_asks_105 (by decide) ?_
    refine x_icmpN_ne (tgt := 114) dX8_asks_106 (by decide) (by omega) (by omega) (fun hv14 => ?_) (fun hv14 => ?_)
    · refine x_iconst (v := nI 0) dX8_asks_114 (by decide) ?_
      refine x_bipush (v := nI 99) dX8_asks_115 (by decide) ?_
      refine x_callS m_X8_within l_X8_258 (r_within _ _ _) (by omega) rfl rfl (Nat.le_of_ble_eq_true rfl) ⟨Nat.le_refl _, Nat.le_refl _⟩ dX8_asks_117 (fun r15 s15 q15 => ?_)
      obtain ⟨rfl, eq15⟩ := q15
      obtain rfl := eq15.symm
      refine x_stk (st' := [.int ((bndI v13 (nI 0) (nI 99)))]) rfl ?_
      exact x_iret ⟨Nat.le_refl _, Nat.le_refl _⟩ rfl dX8_asks_120 ⟨_, _, (by have e9 := ask_eq (lf := lf) (jf := jf) e1 e2 e3 g1 g2 g3 hwh (factsL N W (t.getD x 0) (t.getD y 0) x m D); rw [← hv13, if_neg (by omega)] at e9; rw [e9]), R13, (((((((FrS.rf.up (by omega)).up (by omega)).up (by omega)).up (by omega)).up (by omega)).up (by omega)).tr A13)⟩
    · refine x_bipush (v := (-99)) dX8_asks_109 (by decide) ?_
      refine x_goto (tgt := 115) dX8_asks_111 (by decide) ?_
      refine x_bipush (v := nI 99) dX8_asks_115 (by decide) ?_
      refine x_callS m_X8_within l_X8_258 (r_within _ _ _) (by omega) rfl rfl (Nat.le_of_ble_eq_true rfl) ⟨Nat.le_refl _, Nat.le_refl _⟩ dX8_asks_117 (fun r16 s16 q16 => ?_)
      obtain ⟨rfl, eq16⟩ := q16
      obtain rfl := eq16.symm
      refine x_stk (st' := [.int ((bndI v13 ((-99)) (nI 99)))]) rfl ?_
      exact x_iret ⟨Nat.le_refl _, Nat.le_refl _⟩ rfl dX8_asks_120 ⟨_, _, (by have e9 := ask_eq (lf := lf) (jf := jf) e1 e2 e3 g1 g2 g3 hwh (factsL N W (t.getD x 0) (t.getD y 0) x m D); rw [← hv13, if_pos (by omega)] at e9; rw [e9]), R13, (((((((FrS.rf.up (by omega)).up (by omega)).up (by omega)).up (by omega)).up (by omega)).up (by omega)).tr A13)⟩
theorem r_asks0 {σ0 σ : ZS} {a : Nat → Int32} {tw : Int64} {b : Nat → List Int32} {rr n : Nat} {K N : List Nat} {W : List Int32} {D : List Nat} {fr : Int32} {ru : Nat} {L S : List Nat} {lf jf m : Nat} {t : List Nat} (hR : RM σ0 σ a tw b) (hW : TW a b rr n K N W D fr ru L S lf jf m t) {x y : Nat} (hx : x < m) (hy : y < m) : Cn 160 M_X8_asks 0 0 [.ref 1000, .int (nI 0), .int (nI x), .int (nI y)] σ (fun r9 σ' => ∃ (v : Nat) (a' : Nat → Int32) (tw' : Int64), r9 = some (.int (nI v)) ∧ v = tellN (factsL N W (t.getD x 0) (t.getD y 0) x m D) S 0 lf ∧ v ≤ 99 ∧ RM σ0 σ' a' tw' b ∧ FrS a a') :=
  (r_asks hR hW hx hy (show 0 ≤ 2 by decide)).mono (fun r9 σ' h => by
    obtain ⟨a', tw', h1, h2, h3⟩ := h
    exact ⟨_, a', tw', by rw [h1]; exact congrArg (fun z => some (Value.int z)) (tellN_eq _ _ _ _), rfl, tellN_le _ _ _ _, h2, h3⟩)
theorem r_asks1 {σ0 σ : ZS} {a : Nat → Int32} {tw : Int64} {b : Nat → List Int32} {rr n : Nat} {K N : List Nat} {W : List Int32} {D : List Nat} {fr : Int32} {ru : Nat} {L S : List Nat} {lf jf m : Nat} {t : List Nat} (hR : RM σ0 σ a tw b) (hW : TW a b rr n K N W D fr ru L S lf jf m t) {x y : Nat} (hx : x < m) (hy : y < m) : Cn 160 M_X8_asks 0 0 [.ref 1000, .int (nI 1), .int (nI x), .int (nI y)] σ (fun r9 σ' => ∃ (v : Nat) (a' : Nat → Int32) (tw' : Int64), r9 = some (.int (nI v)) ∧ v = tellN (factsL N W (t.getD x 0) (t.getD y 0) x m D) S lf jf ∧ v ≤ 99 ∧ RM σ0 σ' a' tw' b ∧ FrS a a') :=
  (r_asks hR hW hx hy (show 1 ≤ 2 by decide)).mono (fun r9 σ' h => by
    obtain ⟨a', tw', h1, h2, h3⟩ := h
    exact ⟨_, a', tw', by rw [h1]; exact congrArg (fun z => some (Value.int z)) (tellN_eq _ _ _ _), rfl, tellN_le _ _ _ _, h2, h3⟩)
theorem r_asks2 {σ0 σ : ZS} {a : Nat → Int32} {tw : Int64} {b : Nat → List Int32} {rr n : Nat} {K N : List Nat} {W : List Int32} {D : List Nat} {fr : Int32} {ru : Nat} {L S : List Nat} {lf jf m : Nat} {t : List Nat} (hR : RM σ0 σ a tw b) (hW : TW a b rr n K N W D fr ru L S lf jf m t) {x y : Nat} (hx : x < m) (hy : y < m) : Cn 160 M_X8_asks 0 0 [.ref 1000, .int (nI 2), .int (nI x), .int (nI y)] σ (fun r9 σ' => ∃ (v : Int32) (a' : Nat → Int32) (tw' : Int64), r9 = some (.int v) ∧ v = tellV (factsL N W (t.getD x 0) (t.getD y 0) x m D) S jf S.length (-99) ∧ RM σ0 σ' a' tw' b ∧ FrS a a') :=
  (r_asks hR hW hx hy (show 2 ≤ 2 by decide)).mono (fun r9 σ' h => by
    obtain ⟨a', tw', h1, h2, h3⟩ := h
    exact ⟨_, a', tw', h1, rfl, h2, h3⟩)
set_option maxHeartbeats 4000000 in
theorem r_letsGo {σ0 σ : ZS} {a : Nat → Int32} {tw : Int64} {b : Nat → List Int32} {rr n : Nat} {K N : List Nat} {W : List Int32} {D : List Nat} {fr : Int32} {ru : Nat} {L S : List Nat} {lf jf m : Nat} {t : List Nat} (hR : RM σ0 σ a tw b) (hW : TW a b rr n K N W D fr ru L S lf jf m t) {x y : Nat} (hx : x < m) (hy : y < m) : Cn 161 M_X8_letsGo 0 0 [.ref 1000, .int (nI x), .int (nI y)] σ (fun r9 σ' => ∃ (a' : Nat → Int32) (tw' : Int64), r9 = some (.int (nI (min (letsS (K.getD (t.getD x 0) 0) (N.getD (t.getD x 0) 0) (D.getD (t.getD y 0 * 7 + t.getD x 0) 0) (tellN (factsL N W (t.getD x 0) (t.getD y 0) x m D) S 0 lf)) (D.getD (t.getD y 0 * 7 + t.getD x 0) 0)))) ∧ RM σ0 σ' a' tw' b ∧ FrS a a') := by
  obtain ⟨hC, hT, c31, hm, cT, ht, hTn⟩ := id hW
  obtain ⟨c7, hrr, c13, hn7, c14, cK, cN, cW, cD, hN7, hW7, hD49, hK5, hN9, hD999⟩ := id hC
  obtain ⟨ht7, htb⟩ := id ht
  have hx7 := htb x
  have hy7 := htb y
  have hxn := hTn x hx
  have hyn := hTn y hy
  have hK5x := hK5 (t.getD x 0)
  have hN9x := hN9 (t.getD x 0)
  have hD9x := hD999 (t.getD y 0 * 7 + t.getD x 0)
  refine Cn.intro (lv0 := [some (.ref 1000), some (.int (nI x)), some (.int (nI y)), none, none, none, none, none]) rfl (Nat.le_of_ble_eq_true rfl) rfl (fun d hd => ?_)
  refine x_aload_n dX8_letsGo_0 rfl ?_
  refine x_rget f_X8_41 hR rfl dX8_letsGo_1 ?_
  refine x_iload_n dX8_letsGo_4 rfl ?_
  refine x_rald (j := 7) (n := x) hR rfl (by decide) rfl rfl (rlt hR (m := 7) (by decide) rfl (by omega)) dX8_letsGo_5 ?_
  refine x_topi (y := nI ((t.getD x 0))) (cT _ (by omega)) ?_
  refine x_istore_n dX8_letsGo_6 (by decide) rfl ?_
  refine x_lv (lv' := [some (.ref 1000), some (.int (nI x)), some (.int (nI y)), some (.int (nI ((t.getD x 0)))), none, none, none, none]) rfl ?_
  refine x_aload_n dX8_letsGo_7 rfl ?_
  refine x_rget f_X8_26 hR rfl dX8_letsGo_8 ?_
  refine x_iload_n dX8_letsGo_11 rfl ?_
  refine x_rald (j := 3) (n := (t.getD x 0)) hR rfl (by decide) rfl rfl (rlt hR (m := 7) (by decide) rfl (by omega)) dX8_letsGo_12 ?_
  refine x_topi (y := nI ((K.getD ((t.getD x 0)) 0))) (cK _ (hTn _ (by omega))) ?_
  refine x_istore dX8_letsGo_13 (by decide) rfl ?_
  refine x_lv (lv' := [some (.ref 1000), some (.int (nI x)), some (.int (nI y)), some (.int (nI ((t.getD x 0)))), some (.int (nI ((K.getD ((t.getD x 0)) 0)))), none, none, none]) rfl ?_
  refine x_aload_n dX8_letsGo_15 rfl ?_
  refine x_rget f_X8_35 hR rfl dX8_letsGo_16 ?_
  refine x_bipush (v := nI 7) dX8_letsGo_19 (by decide) ?_
  refine x_aload_n dX8_letsGo_21 rfl ?_
  refine x_rget f_X8_41 hR rfl dX8_letsGo_22 ?_
  refine x_iload_n dX8_letsGo_25 rfl ?_
  refine x_rald (j := 7) (n := y) hR rfl (by decide) rfl rfl (rlt hR (m := 7) (by decide) rfl (by omega)) dX8_letsGo_26 ?_
  refine x_topi (y := nI ((t.getD y 0))) (cT _ (by omega)) ?_
  refine x_imulN dX8_letsGo_27 ?_
  refine x_topi (y := nI (((t.getD y 0)) * 7)) (by rw [Nat.mul_comm]) ?_
  refine x_iload_n dX8_letsGo_28 rfl ?_
  refine x_iaddN dX8_letsGo_29 ?_
  refine x_rald (j := 6) (n := (((t.getD y 0)) * 7) + ((t.getD x 0))) hR rfl (by decide) rfl rfl (rlt hR (m := 49) (by decide) rfl (by omega)) dX8_letsGo_30 ?_
  refine x_topi (y := nI ((D.getD ((((t.getD y 0)) * 7) + ((t.getD x 0))) 0))) (rgN cD) ?_
  refine x_istore dX8_letsGo_31 (by decide) rfl ?_
  refine x_lv (lv' := [some (.ref 1000), some (.int (nI x)), some (.int (nI y)), some (.int (nI ((t.getD x 0)))), some (.int (nI ((K.getD ((t.getD x 0)) 0)))), some (.int (nI ((D.getD ((((t.getD y 0)) * 7) + ((t.getD x 0))) 0)))), none, none]) rfl ?_
  refine x_aload_n dX8_letsGo_33 rfl ?_
  refine x_iconst (v := nI 0) dX8_letsGo_34 (by decide) ?_
  refine x_iload_n dX8_letsGo_35 rfl ?_
  refine x_iload_n dX8_letsGo_36 rfl ?_
  refine x_callV m_X8_asks l_X8_262 (r_asks0 hR hW (by omega) (by omega)) rfl hR.2.1 (by omega) rfl rfl (Nat.le_of_ble_eq_true rfl) ⟨Nat.le_refl _, Nat.le_refl _⟩ dX8_letsGo_37 (fun r1 s1 q1 => ?_)
  obtain ⟨v1, a1, tw1, rfl, hv1, hg1, R1, A1⟩ := q1
  have hW1 := hW.fr A1
  obtain ⟨hC1, hT1, c311, hm1, cT1, ht1, hTn1⟩ := id hW1
  obtain ⟨c71, hrr1, c131, hn71, c141, cK1, cN1, cW1, cD1, hN71, hW71, hD491, hK51, hN91, hD9991⟩ := id hC1
  obtain ⟨ht71, htb1⟩ := id ht1
  refine x_stk (st' := [.int (nI v1)]) rfl ?_
  refine x_istore dX8_letsGo_40 (by decide) rfl ?_
  refine x_lv (lv' := [some (.ref 1000), some (.int (nI x)), some (.int (nI y)), some (.int (nI ((t.getD x 0)))), some (.int (nI ((K.getD ((t.getD x 0)) 0)))), some (.int (nI ((D.getD ((((t.getD y 0)) * 7) + ((t.getD x 0))) 0)))), some (.int (nI v1)), none]) rfl ?_
  refine x_iload dX8_letsGo_42 rfl ?_
  refine x_iconst (v := nI 1) dX8_letsGo_44 (by decide) ?_
  refine x_icmpN_ne (tgt := 55) dX8_letsGo_45 (by decide) (by omega) (by omega) (fun hv2 => ?_) (fun hv2 => ?_)
  · refine x_iload dX8_letsGo_55 rfl ?_
    refine x_iconst (v := nI 3) dX8_letsGo_57 (by decide) ?_
    refine x_icmpN_ne (tgt := 75) dX8_letsGo_58 (by decide) (by omega) (by omega) (fun hv3 => ?_) (fun hv3 => ?_)
    · refine x_iload dX8_letsGo_75 rfl ?_
      refine x_iconst (v := nI 2) dX8_letsGo_77 (by decide) ?_
      refine x_icmpN_ne (tgt := 88) dX8_letsGo_78 (by decide) (by omega) (by omega) (fun hv4 => ?_) (fun hv4 => ?_)
      · refine x_iload dX8_letsGo_88 rfl ?_
        refine x_iconst (v := nI 4) dX8_letsGo_90 (by decide) ?_
        refine x_icmpN_ne (tgt := 113) dX8_letsGo_91 (by decide) (by omega) (by omega) (fun hv5 => ?_) (fun hv5 => ?_)
        · refine x_iload dX8_letsGo_113 rfl ?_
          refine x_iconst (v := nI 5) dX8_letsGo_115 (by decide) ?_
          refine x_icmpN_ne (tgt := 123) dX8_letsGo_116 (by decide) (by omega) (by omega) (fun hv6 => ?_) (fun hv6 => ?_)
          · refine x_iload dX8_letsGo_123 rfl ?_
            refine x_istore dX8_letsGo_125 (by decide) rfl ?_
            refine x_lv (lv' := [some (.ref 1000), some (.int (nI x)), some (.int (nI y)), some (.int (nI ((t.getD x 0)))), some (.int (nI ((K.getD ((t.getD x 0)) 0)))), some (.int (nI ((D.getD ((((t.getD y 0)) * 7) + ((t.getD x 0))) 0)))), some (.int (nI v1)), some (.int (nI v1))]) rfl ?_
            refine x_iload dX8_letsGo_127 rfl ?_
            refine x_iconst (v := nI 0) dX8_letsGo_129 (by decide) ?_
            refine x_iload dX8_letsGo_130 rfl ?_
            refine x_callS m_X8_within l_X8_258 (r_withinN (by omega) (by omega)) (by omega) rfl rfl (Nat.le_of_ble_eq_true rfl) ⟨Nat.le_refl _, Nat.le_refl _⟩ dX8_letsGo_132 (fun r7 s7 q7 => ?_)
            obtain ⟨rfl, eq7⟩ := q7
            obtain rfl := eq7.symm
            refine x_stk (st' := [.int (nI ((min v1 ((D.getD ((((t.getD y 0)) * 7) + ((t.getD x 0))) 0)))))]) rfl ?_
            exact x_iret ⟨Nat.le_refl _, Nat.le_refl _⟩ rfl dX8_letsGo_135 ⟨_, _, (by rw [← hv1, show letsS (K.getD (t.getD x 0) 0) (N.getD (t.getD x 0) 0) (D.getD (t.getD y 0 * 7 + t.getD x 0) 0) v1 = v1 from by unfold letsS; (repeat' split) <;> omega]), R1, (FrS.rf.tr A1)⟩
          · refine x_iconst (v := nI 0) dX8_letsGo_119 (by decide) ?_
            refine x_goto (tgt := 125) dX8_letsGo_120 (by decide) ?_
            refine x_istore dX8_letsGo_125 (by decide) rfl ?_
            refine x_lv (lv' := [some (.ref 1000), some (.int (nI x)), some (.int (nI y)), some (.int (nI ((t.getD x 0)))), some (.int (nI ((K.getD ((t.getD x 0)) 0)))), some (.int (nI ((D.getD ((((t.getD y 0)) * 7) + ((t.getD x 0))) 0)))), some (.int (nI v1)), some (.int (nI 0))]) rfl ?_
            refine x_iload dX8_letsGo_127 rfl ?_
            refine x_iconst (v := nI 0) dX8_letsGo_129 (by decide) ?_
            refine x_iload dX8_letsGo_130 rfl ?_
            refine x_callS m_X8_within l_X8_258 (r_withinN (by omega) (by omega)) (by omega) rfl rfl (Nat.le_of_ble_eq_true rfl) ⟨Nat.le_refl _, Nat.le_refl _⟩ dX8_letsGo_132 (fun r8 s8 q8 => ?_)
            obtain ⟨rfl, eq8⟩ := q8
            obtain rfl := eq8.symm
            refine x_stk (st' := [.int (nI ((min 0 ((D.getD ((((t.getD y 0)) * 7) + ((t.getD x 0))) 0)))))]) rfl ?_
            exact x_iret ⟨Nat.le_refl _, Nat.le_refl _⟩ rfl dX8_letsGo_135 ⟨_, _, (by rw [← hv1, show letsS (K.getD (t.getD x 0) 0) (N.getD (t.getD x 0) 0) (D.getD (t.getD y 0 * 7 + t.getD x 0) 0) v1 = 0 from by unfold letsS; (repeat' split) <;> omega]), R1, (FrS.rf.tr A1)⟩
        · refine x_iload dX8_letsGo_94 rfl ?_
          refine x_bipush (v := nI 100) dX8_letsGo_96 (by decide) ?_
          refine x_icmpN_ge (tgt := 106) dX8_letsGo_98 (by decide) (by omega) (by omega) (fun hv9 => ?_) (fun hv9 => ?_)
          · refine x_iconst (v := nI 2) dX8_letsGo_106 (by decide) ?_
            refine x_iload dX8_letsGo_107 rfl ?_
            refine x_imulN dX8_letsGo_109 ?_
            refine x_goto (tgt := 125) dX8_letsGo_110 (by decide) ?_
            refine x_istore dX8_letsGo_125 (by decide) rfl ?_
            refine x_lv (lv' := [some (.ref 1000), some (.int (nI x)), some (.int (nI y)), some (.int (nI ((t.getD x 0)))), some (.int (nI ((K.getD ((t.getD x 0)) 0)))), some (.int (nI ((D.getD ((((t.getD y 0)) * 7) + ((t.getD x 0))) 0)))), some (.int (nI v1)), some (.int (nI (2 * v1)))]) rfl ?_
            refine x_iload dX8_letsGo_127 rfl ?_
            refine x_iconst (v := nI 0) dX8_letsGo_129 (by decide) ?_
            refine x_iload dX8_letsGo_130 rfl ?_
            refine x_callS m_X8_within l_X8_258 (r_withinN (by omega) (by omega)) (by omega) rfl rfl (Nat.le_of_ble_eq_true rfl) ⟨Nat.le_refl _, Nat.le_refl _⟩ dX8_letsGo_132 (fun r10 s10 q10 => ?_)
            obtain ⟨rfl, eq10⟩ := q10
            obtain rfl := eq10.symm
            refine x_stk (st' := [.int (nI ((min (2 * v1) ((D.getD ((((t.getD y 0)) * 7) + ((t.getD x 0))) 0)))))]) rfl ?_
            exact x_iret ⟨Nat.le_refl _, Nat.le_refl _⟩ rfl dX8_letsGo_135 ⟨_, _, (by rw [← hv1, show letsS (K.getD (t.getD x 0) 0) (N.getD (t.getD x 0) 0) (D.getD (t.getD y 0 * 7 + t.getD x 0) 0) v1 = 2 * v1 from by unfold letsS; (repeat' split) <;> omega]), R1, (FrS.rf.tr A1)⟩
          · refine x_iload dX8_letsGo_101 rfl ?_
            refine x_goto (tgt := 125) dX8_letsGo_103 (by decide) ?_
            refine x_istore dX8_letsGo_125 (by decide) rfl ?_
            refine x_lv (lv' := [some (.ref 1000), some (.int (nI x)), some (.int (nI y)), some (.int (nI ((t.getD x 0)))), some (.int (nI ((K.getD ((t.getD x 0)) 0)))), some (.int (nI ((D.getD ((((t.getD y 0)) * 7) + ((t.getD x 0))) 0)))), some (.int (nI v1)), some (.int (nI ((D.getD ((((t.getD y 0)) * 7) + ((t.getD x 0))) 0))))]) rfl ?_
            refine x_iload dX8_letsGo_127 rfl ?_
            refine x_iconst (v := nI 0) dX8_letsGo_129 (by decide) ?_
            refine x_iload dX8_letsGo_130 rfl ?_
            refine x_callS m_X8_within l_X8_258 (r_withinN (by omega) (by omega)) (by omega) rfl rfl (Nat.le_of_ble_eq_true rfl) ⟨Nat.le_refl _, Nat.le_refl _⟩ dX8_letsGo_132 (fun r11 s11 q11 => ?_)
            obtain ⟨rfl, eq11⟩ := q11
            obtain rfl := eq11.symm
            refine x_stk (st' := [.int (nI ((min ((D.getD ((((t.getD y 0)) * 7) + ((t.getD x 0))) 0)) ((D.getD ((((t.getD y 0)) * 7) + ((t.getD x 0))) 0)))))]) rfl ?_
            exact x_iret ⟨Nat.le_refl _, Nat.le_refl _⟩ rfl dX8_letsGo_135 ⟨_, _, (by rw [← hv1, show letsS (K.getD (t.getD x 0) 0) (N.getD (t.getD x 0) 0) (D.getD (t.getD y 0 * 7 + t.getD x 0) 0) v1 = (D.getD ((((t.getD y 0)) * 7) + ((t.getD x 0))) 0) from by unfold letsS; (repeat' split) <;> omega]), R1, (FrS.rf.tr A1)⟩
      · refine x_iconst (v := nI 2) dX8_letsGo_81 (by decide) ?_
        refine x_iload dX8_letsGo_82 rfl ?_
        refine x_imulN dX8_letsGo_84 ?_
        refine x_goto (tgt := 125) dX8_letsGo_85 (by decide) ?_
        refine x_istore dX8_letsGo_125 (by decide) rfl ?_
        refine x_lv (lv' := [some (.ref 1000), some (.int (nI x)), some (.int (nI y)), some (.int (nI ((t.getD x 0)))), some (.int (nI ((K.getD ((t.getD x 0)) 0)))), some (.int (nI ((D.getD ((((t.getD y 0)) * 7) + ((t.getD x 0))) 0)))), some (.int (nI v1)), some (.int (nI (2 * v1)))]) rfl ?_
        refine x_iload dX8_letsGo_127 rfl ?_
        refine x_iconst (v := nI 0) dX8_letsGo_129 (by decide) ?_
        refine x_iload dX8_letsGo_130 rfl ?_
        refine x_callS m_X8_within l_X8_258 (r_withinN (by omega) (by omega)) (by omega) rfl rfl (Nat.le_of_ble_eq_true rfl) ⟨Nat.le_refl _, Nat.le_refl _⟩ dX8_letsGo_132 (fun r12 s12 q12 => ?_)
        obtain ⟨rfl, eq12⟩ := q12
        obtain rfl := eq12.symm
        refine x_stk (st' := [.int (nI ((min (2 * v1) ((D.getD ((((t.getD y 0)) * 7) + ((t.getD x 0))) 0)))))]) rfl ?_
        exact x_iret ⟨Nat.le_refl _, Nat.le_refl _⟩ rfl dX8_letsGo_135 ⟨_, _, (by rw [← hv1, show letsS (K.getD (t.getD x 0) 0) (N.getD (t.getD x 0) 0) (D.getD (t.getD y 0 * 7 + t.getD x 0) 0) v1 = 2 * v1 from by unfold letsS; (repeat' split) <;> omega]), R1, (FrS.rf.tr A1)⟩
    · refine x_iload dX8_letsGo_61 rfl ?_
      refine x_iconst (v := nI 2) dX8_letsGo_63 (by decide) ?_
      refine x_idivN (by omega) (by omega) (by omega) dX8_letsGo_64 ?_
      refine x_aload_n dX8_letsGo_65 rfl ?_
      refine x_rget f_X8_29 R1 rfl dX8_letsGo_66 ?_
      refine x_iload_n dX8_letsGo_69 rfl ?_
      refine x_rald (j := 4) (n := (t.getD x 0)) R1 rfl (by decide) rfl rfl (rlt R1 (m := 7) (by decide) rfl (by omega)) dX8_letsGo_70 ?_
      refine x_topi (y := nI ((N.getD ((t.getD x 0)) 0))) (rgN cN1) ?_
      refine x_iaddN dX8_letsGo_71 ?_
      refine x_goto (tgt := 125) dX8_letsGo_72 (by decide) ?_
      refine x_istore dX8_letsGo_125 (by decide) rfl ?_
      refine x_lv (lv' := [some (.ref 1000), some (.int (nI x)), some (.int (nI y)), some (.int (nI ((t.getD x 0)))), some (.int (nI ((K.getD ((t.getD x 0)) 0)))), some (.int (nI ((D.getD ((((t.getD y 0)) * 7) + ((t.getD x 0))) 0)))), some (.int (nI v1)), some (.int (nI ((v1 / 2) + ((N.getD ((t.getD x 0)) 0)))))]) rfl ?_
      refine x_iload dX8_letsGo_127 rfl ?_
      refine x_iconst (v := nI 0) dX8_letsGo_129 (by decide) ?_
      refine x_iload dX8_letsGo_130 rfl ?_
      refine x_callS m_X8_within l_X8_258 (r_withinN (by omega) (by omega)) (by omega) rfl rfl (Nat.le_of_ble_eq_true rfl) ⟨Nat.le_refl _, Nat.le_refl _⟩ dX8_letsGo_132 (fun r13 s13 q13 => ?_)
      obtain ⟨rfl, eq13⟩ := q13
      obtain rfl := eq13.symm
      refine x_stk (st' := [.int (nI ((min ((v1 / 2) + ((N.getD ((t.getD x 0)) 0))) ((D.getD ((((t.getD y 0)) * 7) + ((t.getD x 0))) 0)))))]) rfl ?_
      exact x_iret ⟨Nat.le_refl _, Nat.le_refl _⟩ rfl dX8_letsGo_135 ⟨_, _, (by rw [← hv1, show letsS (K.getD (t.getD x 0) 0) (N.getD (t.getD x 0) 0) (D.getD (t.getD y 0 * 7 + t.getD x 0) 0) v1 = (v1 / 2) + ((N.getD ((t.getD x 0)) 0)) from by unfold letsS; (repeat' split) <;> omega]), R1, (FrS.rf.tr A1)⟩
  · refine x_iload dX8_letsGo_48 rfl ?_
    refine x_iconst (v := nI 2) dX8_letsGo_50 (by decide) ?_
    refine x_idivN (by omega) (by omega) (by omega) dX8_letsGo_51 ?_
    refine x_goto (tgt := 125) dX8_letsGo_52 (by decide) ?_
    refine x_istore dX8_letsGo_125 (by decide) rfl ?_
    refine x_lv (lv' := [some (.ref 1000), some (.int (nI x)), some (.int (nI y)), some (.int (nI ((t.getD x 0)))), some (.int (nI ((K.getD ((t.getD x 0)) 0)))), some (.int (nI ((D.getD ((((t.getD y 0)) * 7) + ((t.getD x 0))) 0)))), some (.int (nI v1)), some (.int (nI (v1 / 2)))]) rfl ?_
    refine x_iload dX8_letsGo_127 rfl ?_
    refine x_iconst (v := nI 0) dX8_letsGo_129 (by decide) ?_
    refine x_iload dX8_letsGo_130 rfl ?_
    refine x_callS m_X8_within l_X8_258 (r_withinN (by omega) (by omega)) (by omega) rfl rfl (Nat.le_of_ble_eq_true rfl) ⟨Nat.le_refl _, Nat.le_refl _⟩ dX8_letsGo_132 (fun r14 s14 q14 => ?_)
    obtain ⟨rfl, eq14⟩ := q14
    obtain rfl := eq14.symm
    refine x_stk (st' := [.int (nI ((min (v1 / 2) ((D.getD ((((t.getD y 0)) * 7) + ((t.getD x 0))) 0)))))]) rfl ?_
    exact x_iret ⟨Nat.le_refl _, Nat.le_refl _⟩ rfl dX8_letsGo_135 ⟨_, _, (by rw [← hv1, show letsS (K.getD (t.getD x 0) 0) (N.getD (t.getD x 0) 0) (D.getD (t.getD y 0 * 7 + t.getD x 0) 0) v1 = v1 / 2 from by unfold letsS; (repeat' split) <;> omega]), R1, (FrS.rf.tr A1)⟩
set_option maxHeartbeats 4000000 in
theorem r_lendsOf {σ0 σ : ZS} {a : Nat → Int32} {tw : Int64} {b : Nat → List Int32} {rr n : Nat} {K N : List Nat} {W : List Int32} {D : List Nat} {fr : Int32} {ru : Nat} {L S : List Nat} {lf jf m : Nat} {t : List Nat} (hR : RM σ0 σ a tw b) (hW : TW a b rr n K N W D fr ru L S lf jf m t) {x y : Nat} (hx : x < m) (hy : y < m) : Cn 161 M_X8_lendsOf 0 0 [.ref 1000, .int (nI x), .int (nI y)] σ (fun r9 σ' => ∃ (a' : Nat → Int32) (tw' : Int64), r9 = some (.int (nI (lendS (K.getD (t.getD x 0) 0) (N.getD (t.getD x 0) 0) (tellN (factsL N W (t.getD x 0) (t.getD y 0) x m D) S lf jf)))) ∧ RM σ0 σ' a' tw' b ∧ FrS a a') := by
  obtain ⟨hC, hT, c31, hm, cT, ht, hTn⟩ := id hW
  obtain ⟨c7, hrr, c13, hn7, c14, cK, cN, cW, cD, hN7, hW7, hD49, hK5, hN9, hD999⟩ := id hC
  obtain ⟨ht7, htb⟩ := id ht
  have hx7 := htb x
  have hy7 := htb y
  have hxn := hTn x hx
  have hyn := hTn y hy
  have hK5x := hK5 (t.getD x 0)
  have hN9x := hN9 (t.getD x 0)
  have hD9x := hD999 (t.getD y 0 * 7 + t.getD x 0)
  refine Cn.intro (lv0 := [some (.ref 1000), some (.int (nI x)), some (.int (nI y)), none, none, none]) rfl (Nat.le_of_ble_eq_true rfl) rfl (fun d hd => ?_)
  refine x_aload_n dX8_lendsOf_0 rfl ?_
  refine x_rget f_X8_41 hR rfl dX8_lendsOf_1 ?_
  refine x_iload_n dX8_lendsOf_4 rfl ?_
  refine x_rald (j := 7) (n := x) hR rfl (by decide) rfl rfl (rlt hR (m := 7) (by decide) rfl (by omega)) dX8_lendsOf_5 ?_
  refine x_topi (y := nI ((t.getD x 0))) (cT _ (by omega)) ?_
  refine x_istore_n dX8_lendsOf_6 (by decide) rfl ?_
  refine x_lv (lv' := [some (.ref 1000), some (.int (nI x)), some (.int (nI y)), some (.int (nI ((t.getD x 0)))), none, none]) rfl ?_
  refine x_aload_n dX8_lendsOf_7 rfl ?_
  refine x_rget f_X8_26 hR rfl dX8_lendsOf_8 ?_
  refine x_iload_n dX8_lendsOf_11 rfl ?_
  refine x_rald (j := 3) (n := (t.getD x 0)) hR rfl (by decide) rfl rfl (rlt hR (m := 7) (by decide) rfl (by omega)) dX8_lendsOf_12 ?_
  refine x_topi (y := nI ((K.getD ((t.getD x 0)) 0))) (cK _ (hTn _ (by omega))) ?_
  refine x_istore dX8_lendsOf_13 (by decide) rfl ?_
  refine x_lv (lv' := [some (.ref 1000), some (.int (nI x)), some (.int (nI y)), some (.int (nI ((t.getD x 0)))), some (.int (nI ((K.getD ((t.getD x 0)) 0)))), none]) rfl ?_
  refine x_aload_n dX8_lendsOf_15 rfl ?_
  refine x_iconst (v := nI 1) dX8_lendsOf_16 (by decide) ?_
  refine x_iload_n dX8_lendsOf_17 rfl ?_
  refine x_iload_n dX8_lendsOf_18 rfl ?_
  refine x_callV m_X8_asks l_X8_262 (r_asks1 hR hW (by omega) (by omega)) rfl hR.2.1 (by omega) rfl rfl (Nat.le_of_ble_eq_true rfl) ⟨Nat.le_refl _, Nat.le_refl _⟩ dX8_lendsOf_19 (fun r1 s1 q1 => ?_)
  obtain ⟨v1, a1, tw1, rfl, hv1, hg1, R1, A1⟩ := q1
  have hW1 := hW.fr A1
  obtain ⟨hC1, hT1, c311, hm1, cT1, ht1, hTn1⟩ := id hW1
  obtain ⟨c71, hrr1, c131, hn71, c141, cK1, cN1, cW1, cD1, hN71, hW71, hD491, hK51, hN91, hD9991⟩ := id hC1
  obtain ⟨ht71, htb1⟩ := id ht1
  refine x_stk (st' := [.int (nI v1)]) rfl ?_
  refine x_istore dX8_lendsOf_22 (by decide) rfl ?_
  refine x_lv (lv' := [some (.ref 1000), some (.int (nI x)), some (.int (nI y)), some (.int (nI ((t.getD x 0)))), some (.int (nI ((K.getD ((t.getD x 0)) 0)))), some (.int (nI v1))]) rfl ?_
  refine x_iload dX8_lendsOf_24 rfl ?_
  refine x_iconst (v := nI 1) dX8_lendsOf_26 (by decide) ?_
  refine x_icmpN_eq (tgt := 36) dX8_lendsOf_27 (by decide) (by omega) (by omega) (fun hv2 => ?_) (fun hv2 => ?_)
  · refine x_iconst (v := nI 0) dX8_lendsOf_36 (by decide) ?_
    refine x_goto (tgt := 80) dX8_lendsOf_37 (by decide) ?_
    exact x_iret ⟨Nat.le_refl _, Nat.le_refl _⟩ rfl dX8_lendsOf_80 ⟨_, _, (by rw [← hv1, show lendS (K.getD (t.getD x 0) 0) (N.getD (t.getD x 0) 0) v1 = 0 from by unfold lendS; (repeat' split) <;> omega]), R1, (FrS.rf.tr A1)⟩
  · refine x_iload dX8_lendsOf_30 rfl ?_
    refine x_iconst (v := nI 3) dX8_lendsOf_32 (by decide) ?_
    refine x_icmpN_ne (tgt := 40) dX8_lendsOf_33 (by decide) (by omega) (by omega) (fun hv3 => ?_) (fun hv3 => ?_)
    · refine x_iload dX8_lendsOf_40 rfl ?_
      refine x_iconst (v := nI 2) dX8_lendsOf_42 (by decide) ?_
      refine x_icmpN_ne (tgt := 58) dX8_lendsOf_43 (by decide) (by omega) (by omega) (fun hv4 => ?_) (fun hv4 => ?_)
      · refine x_iload dX8_lendsOf_58 rfl ?_
        refine x_iconst (v := nI 4) dX8_lendsOf_60 (by decide) ?_
        refine x_icmpN_ne (tgt := 78) dX8_lendsOf_61 (by decide) (by omega) (by omega) (fun hv5 => ?_) (fun hv5 => ?_)
        · refine x_iload dX8_lendsOf_78 rfl ?_
          exact x_iret ⟨Nat.le_refl _, Nat.le_refl _⟩ rfl dX8_lendsOf_80 ⟨_, _, (by rw [← hv1, show lendS (K.getD (t.getD x 0) 0) (N.getD (t.getD x 0) 0) v1 = v1 from by unfold lendS; (repeat' split) <;> omega]), R1, (FrS.rf.tr A1)⟩
        · refine x_iload dX8_lendsOf_64 rfl ?_
          refine x_aload_n dX8_lendsOf_66 rfl ?_
          refine x_rget f_X8_29 R1 rfl dX8_lendsOf_67 ?_
          refine x_iload_n dX8_lendsOf_70 rfl ?_
          refine x_rald (j := 4) (n := (t.getD x 0)) R1 rfl (by decide) rfl rfl (rlt R1 (m := 7) (by decide) rfl (by omega)) dX8_lendsOf_71 ?_
          refine x_topi (y := nI ((N.getD ((t.getD x 0)) 0))) (rgN cN1) ?_
          refine x_iaddN dX8_lendsOf_72 ?_
          refine x_iconst (v := nI 2) dX8_lendsOf_73 (by decide) ?_
          refine x_idivN (by omega) (by omega) (by omega) dX8_lendsOf_74 ?_
          refine x_goto (tgt := 80) dX8_lendsOf_75 (by decide) ?_
          exact x_iret ⟨Nat.le_refl _, Nat.le_refl _⟩ rfl dX8_lendsOf_80 ⟨_, _, (by rw [← hv1, show lendS (K.getD (t.getD x 0) 0) (N.getD (t.getD x 0) 0) v1 = (v1 + ((N.getD ((t.getD x 0)) 0))) / 2 from by unfold lendS; (repeat' split) <;> omega]), R1, (FrS.rf.tr A1)⟩
      · refine x_iload dX8_lendsOf_46 rfl ?_
        refine x_aload_n dX8_lendsOf_48 rfl ?_
        refine x_rget f_X8_29 R1 rfl dX8_lendsOf_49 ?_
        refine x_iload_n dX8_lendsOf_52 rfl ?_
        refine x_rald (j := 4) (n := (t.getD x 0)) R1 rfl (by decide) rfl rfl (rlt R1 (m := 7) (by decide) rfl (by omega)) dX8_lendsOf_53 ?_
        refine x_topi (y := nI ((N.getD ((t.getD x 0)) 0))) (rgN cN1) ?_
        refine x_iaddN dX8_lendsOf_54 ?_
        refine x_goto (tgt := 80) dX8_lendsOf_55 (by decide) ?_
        exact x_iret ⟨Nat.le_refl _, Nat.le_refl _⟩ rfl dX8_lendsOf_80 ⟨_, _, (by rw [← hv1, show lendS (K.getD (t.getD x 0) 0) (N.getD (t.getD x 0) 0) v1 = v1 + ((N.getD ((t.getD x 0)) 0)) from by unfold lendS; (repeat' split) <;> omega]), R1, (FrS.rf.tr A1)⟩
    · refine x_iconst (v := nI 0) dX8_lendsOf_36 (by decide) ?_
      refine x_goto (tgt := 80) dX8_lendsOf_37 (by decide) ?_
      exact x_iret ⟨Nat.le_refl _, Nat.le_refl _⟩ rfl dX8_lendsOf_80 ⟨_, _, (by rw [← hv1, show lendS (K.getD (t.getD x 0) 0) (N.getD (t.getD x 0) 0) v1 = 0 from by unfold lendS; (repeat' split) <;> omega]), R1, (FrS.rf.tr A1)⟩
set_option maxHeartbeats 4000000 in
theorem r_gladOf {σ0 σ : ZS} {a : Nat → Int32} {tw : Int64} {b : Nat → List Int32} {rr n : Nat} {K N : List Nat} {W : List Int32} {D : List Nat} {fr : Int32} {ru : Nat} {L S : List Nat} {lf jf m : Nat} {t : List Nat} (hR : RM σ0 σ a tw b) (hW : TW a b rr n K N W D fr ru L S lf jf m t) {x y : Nat} (hx : x < m) (hy : y < m) : Cn 161 M_X8_gladOf 0 0 [.ref 1000, .int (nI x), .int (nI y)] σ (fun r9 σ' => ∃ (a' : Nat → Int32) (tw' : Int64), r9 = some (.int (gdI S jf K N W D (t.getD x 0) (t.getD y 0) x m)) ∧ RM σ0 σ' a' tw' b ∧ FrS a a') := by
  obtain ⟨hC, hT, c31, hm, cT, ht, hTn⟩ := id hW
  obtain ⟨c7, hrr, c13, hn7, c14, cK, cN, cW, cD, hN7, hW7, hD49, hK5, hN9, hD999⟩ := id hC
  obtain ⟨ht7, htb⟩ := id ht
  have hx7 := htb x
  have hy7 := htb y
  have hxn := hTn x hx
  have hyn := hTn y hy
  have hK5x := hK5 (t.getD x 0)
  have hN9x := hN9 (t.getD x 0)
  have hD9x := hD999 (t.getD y 0 * 7 + t.getD x 0)
  refine Cn.intro (lv0 := [some (.ref 1000), some (.int (nI x)), some (.int (nI y)), none, none, none, none, none]) rfl (Nat.le_of_ble_eq_true rfl) rfl (fun d hd => ?_)
  refine x_aload_n dX8_gladOf_0 rfl ?_
  refine x_rget f_X8_41 hR rfl dX8_gladOf_1 ?_
  refine x_iload_n dX8_gladOf_4 rfl ?_
  refine x_rald (j := 7) (n := x) hR rfl (by decide) rfl rfl (rlt hR (m := 7) (by decide) rfl (by omega)) dX8_gladOf_5 ?_
  refine x_topi (y := nI ((t.getD x 0))) (cT _ (by omega)) ?_
  refine x_istore_n dX8_gladOf_6 (by decide) rfl ?_
  refine x_lv (lv' := [some (.ref 1000), some (.int (nI x)), some (.int (nI y)), some (.int (nI ((t.getD x 0)))), none, none, none, none]) rfl ?_
  refine x_aload_n dX8_gladOf_7 rfl ?_
  refine x_rget f_X8_26 hR rfl dX8_gladOf_8 ?_
  refine x_iload_n dX8_gladOf_11 rfl ?_
  refine x_rald (j := 3) (n := (t.getD x 0)) hR rfl (by decide) rfl rfl (rlt hR (m := 7) (by decide) rfl (by omega)) dX8_gladOf_12 ?_
  refine x_topi (y := nI ((K.getD ((t.getD x 0)) 0))) (cK _ (hTn _ (by omega))) ?_
  refine x_istore dX8_gladOf_13 (by decide) rfl ?_
  refine x_lv (lv' := [some (.ref 1000), some (.int (nI x)), some (.int (nI y)), some (.int (nI ((t.getD x 0)))), some (.int (nI ((K.getD ((t.getD x 0)) 0)))), none, none, none]) rfl ?_
  refine x_iload dX8_gladOf_15 rfl ?_
  refine x_iconst (v := nI 5) dX8_gladOf_17 (by decide) ?_
  refine x_icmpN_ne (tgt := 23) dX8_gladOf_18 (by decide) (by omega) (by omega) (fun hv1 => ?_) (fun hv1 => ?_)
  · refine x_aload_n dX8_gladOf_23 rfl ?_
    refine x_rget f_X8_32 hR rfl dX8_gladOf_24 ?_
    refine x_iload_n dX8_gladOf_27 rfl ?_
    refine x_rald (j := 5) (n := (t.getD x 0)) hR rfl (by decide) rfl rfl (rlt hR (m := 7) (by decide) rfl (by omega)) dX8_gladOf_28 ?_
    refine x_topi (y := (W.getD ((t.getD x 0)) 0)) (rgD cW) ?_
    refine x_aload_n dX8_gladOf_29 rfl ?_
    refine x_rget f_X8_41 hR rfl dX8_gladOf_30 ?_
    refine x_iload_n dX8_gladOf_33 rfl ?_
    refine x_rald (j := 7) (n := y) hR rfl (by decide) rfl rfl (rlt hR (m := 7) (by decide) rfl (by omega)) dX8_gladOf_34 ?_
    refine x_topi (y := nI ((t.getD y 0))) (cT _ (by omega)) ?_
    refine x_icmpT_ne (p := ((W.getD ((t.getD x 0)) 0)).toInt) (q := (((t.getD y 0) : Nat) : Int)) (tgt := 42) rfl (nI_toInt (by omega)) dX8_gladOf_35 (by decide) (fun hv2 => ?_) (fun hv2 => ?_)
    · refine x_iconst (v := nI 0) dX8_gladOf_42 (by decide) ?_
      have hwb : decide (W.getD (t.getD x 0) 0 = nI (t.getD y 0)) = false := decide_eq_false (fun q => hv2 (by rw [q, tI_nI (by omega)]))
      refine x_istore dX8_gladOf_43 (by decide) rfl ?_
      refine x_lv (lv' := [some (.ref 1000), some (.int (nI x)), some (.int (nI y)), some (.int (nI ((t.getD x 0)))), some (.int (nI ((K.getD ((t.getD x 0)) 0)))), some (.int (nI 0)), none, none]) rfl ?_
      refine x_aload_n dX8_gladOf_45 rfl ?_
      refine x_iconst (v := nI 2) dX8_gladOf_46 (by decide) ?_
      refine x_iload_n dX8_gladOf_47 rfl ?_
      refine x_iload_n dX8_gladOf_48 rfl ?_
      refine x_callV m_X8_asks l_X8_262 (r_asks2 hR hW (by omega) (by omega)) rfl hR.2.1 (by omega) rfl rfl (Nat.le_of_ble_eq_true rfl) ⟨Nat.le_refl _, Nat.le_refl _⟩ dX8_gladOf_49 (fun r3 s3 q3 => ?_)
      obtain ⟨v3, a3, tw3, rfl, hv3, R3, A3⟩ := q3
      have hW3 := hW.fr A3
      obtain ⟨hC3, hT3, c313, hm3, cT3, ht3, hTn3⟩ := id hW3
      obtain ⟨c73, hrr3, c133, hn73, c143, cK3, cN3, cW3, cD3, hN73, hW73, hD493, hK53, hN93, hD9993⟩ := id hC3
      obtain ⟨ht73, htb3⟩ := id ht3
      refine x_stk (st' := [.int v3]) rfl ?_
      refine x_istore dX8_gladOf_52 (by decide) rfl ?_
      refine x_lv (lv' := [some (.ref 1000), some (.int (nI x)), some (.int (nI y)), some (.int (nI ((t.getD x 0)))), some (.int (nI ((K.getD ((t.getD x 0)) 0)))), some (.int (nI 0)), some (.int v3), none]) rfl ?_
      refine x_iload dX8_gladOf_54 rfl ?_
      refine x_ifN_eq (tgt := 67) dX8_gladOf_56 (by decide) (by omega) (fun hv4 => ?_) (fun hv4 => ?_)
      · refine x_iload dX8_gladOf_67 rfl ?_
        refine x_istore dX8_gladOf_69 (by decide) rfl ?_
        refine x_lv (lv' := [some (.ref 1000), some (.int (nI x)), some (.int (nI y)), some (.int (nI ((t.getD x 0)))), some (.int (nI ((K.getD ((t.getD x 0)) 0)))), some (.int (nI 0)), some (.int v3), some (.int v3)]) rfl ?_
        refine x_iload dX8_gladOf_71 rfl ?_
        refine x_iconst (v := nI 1) dX8_gladOf_73 (by decide) ?_
        refine x_icmpN_eq (tgt := 83) dX8_gladOf_74 (by decide) (by omega) (by omega) (fun hv5 => ?_) (fun hv5 => ?_)
        · refine x_iload dX8_gladOf_83 rfl ?_
          refine x_ifN_eq (tgt := 93) dX8_gladOf_85 (by decide) (by omega) (fun hv6 => ?_) (fun hv6 => ?_)
          · refine x_iload dX8_gladOf_93 rfl ?_
            refine x_iconst (v := nI 5) dX8_gladOf_95 (by decide) ?_
            refine x_isub dX8_gladOf_96 ?_
            exact x_iret ⟨Nat.le_refl _, Nat.le_refl _⟩ rfl dX8_gladOf_97 ⟨_, _, (by rw [gdI, ← hv3, hwb]; unfold gladI; simp only [↓reduceIte, Bool.false_eq_true]; (repeat' split) <;> first | rfl | (exfalso; omega)), R3, (FrS.rf.tr A3)⟩
          · exact absurd hv6 (by decide)
        · refine x_iload dX8_gladOf_77 rfl ?_
          refine x_iconst (v := nI 3) dX8_gladOf_79 (by decide) ?_
          refine x_icmpN_ne (tgt := 98) dX8_gladOf_80 (by decide) (by omega) (by omega) (fun hv7 => ?_) (fun hv7 => ?_)
          · refine x_iload dX8_gladOf_98 rfl ?_
            refine x_iconst (v := nI 2) dX8_gladOf_100 (by decide) ?_
            refine x_icmpN_ne (tgt := 111) dX8_gladOf_101 (by decide) (by omega) (by omega) (fun hv8 => ?_) (fun hv8 => ?_)
            · refine x_iload dX8_gladOf_111 rfl ?_
              refine x_iconst (v := nI 4) dX8_gladOf_113 (by decide) ?_
              refine x_icmpN_ne (tgt := 131) dX8_gladOf_114 (by decide) (by omega) (by omega) (fun hv9 => ?_) (fun hv9 => ?_)
              · refine x_iload dX8_gladOf_131 rfl ?_
                exact x_iret ⟨Nat.le_refl _, Nat.le_refl _⟩ rfl dX8_gladOf_133 ⟨_, _, (by rw [gdI, ← hv3, hwb]; unfold gladI; simp only [↓reduceIte, Bool.false_eq_true]; (repeat' split) <;> first | rfl | (exfalso; omega)), R3, (FrS.rf.tr A3)⟩
              · refine x_iconst (v := nI 2) dX8_gladOf_117 (by decide) ?_
                refine x_iload dX8_gladOf_118 rfl ?_
                refine x_imul dX8_gladOf_120 ?_
                refine x_aload_n dX8_gladOf_121 rfl ?_
                refine x_rget f_X8_29 R3 rfl dX8_gladOf_122 ?_
                refine x_iload_n dX8_gladOf_125 rfl ?_
                refine x_rald (j := 4) (n := (t.getD x 0)) R3 rfl (by decide) rfl rfl (rlt R3 (m := 7) (by decide) rfl (by omega)) dX8_gladOf_126 ?_
                refine x_topi (y := nI ((N.getD ((t.getD x 0)) 0))) (rgN cN3) ?_
                refine x_iadd dX8_gladOf_127 ?_
                refine x_goto (tgt := 133) dX8_gladOf_128 (by decide) ?_
                exact x_iret ⟨Nat.le_refl _, Nat.le_refl _⟩ rfl dX8_gladOf_133 ⟨_, _, (by rw [gdI, ← hv3, hwb]; unfold gladI; simp only [↓reduceIte, Bool.false_eq_true]; (repeat' split) <;> first | rfl | (exfalso; omega)), R3, (FrS.rf.tr A3)⟩
            · refine x_iconst (v := nI 2) dX8_gladOf_104 (by decide) ?_
              refine x_iload dX8_gladOf_105 rfl ?_
              refine x_imul dX8_gladOf_107 ?_
              refine x_goto (tgt := 133) dX8_gladOf_108 (by decide) ?_
              exact x_iret ⟨Nat.le_refl _, Nat.le_refl _⟩ rfl dX8_gladOf_133 ⟨_, _, (by rw [gdI, ← hv3, hwb]; unfold gladI; simp only [↓reduceIte, Bool.false_eq_true]; (repeat' split) <;> first | rfl | (exfalso; omega)), R3, (FrS.rf.tr A3)⟩
          · refine x_iload dX8_gladOf_83 rfl ?_
            refine x_ifN_eq (tgt := 93) dX8_gladOf_85 (by decide) (by omega) (fun hv10 => ?_) (fun hv10 => ?_)
            · refine x_iload dX8_gladOf_93 rfl ?_
              refine x_iconst (v := nI 5) dX8_gladOf_95 (by decide) ?_
              refine x_isub dX8_gladOf_96 ?_
              exact x_iret ⟨Nat.le_refl _, Nat.le_refl _⟩ rfl dX8_gladOf_97 ⟨_, _, (by rw [gdI, ← hv3, hwb]; unfold gladI; simp only [↓reduceIte, Bool.false_eq_true]; (repeat' split) <;> first | rfl | (exfalso; omega)), R3, (FrS.rf.tr A3)⟩
            · exact absurd hv10 (by decide)
      · exact absurd hv4 (by decide)
    · refine x_iconst (v := nI 1) dX8_gladOf_38 (by decide) ?_
      refine x_goto (tgt := 43) dX8_gladOf_39 (by decide) ?_
      have hwb : decide (W.getD (t.getD x 0) 0 = nI (t.getD y 0)) = true := decide_eq_true (Int32.toInt_inj.mp (by rw [tI_nI (by omega)]; omega))
      refine x_istore dX8_gladOf_43 (by decide) rfl ?_
      refine x_lv (lv' := [some (.ref 1000), some (.int (nI x)), some (.int (nI y)), some (.int (nI ((t.getD x 0)))), some (.int (nI ((K.getD ((t.getD x 0)) 0)))), some (.int (nI 1)), none, none]) rfl ?_
      refine x_aload_n dX8_gladOf_45 rfl ?_
      refine x_iconst (v := nI 2) dX8_gladOf_46 (by decide) ?_
      refine x_iload_n dX8_gladOf_47 rfl ?_
      refine x_iload_n dX8_gladOf_48 rfl ?_
      refine x_callV m_X8_asks l_X8_262 (r_asks2 hR hW (by omega) (by omega)) rfl hR.2.1 (by omega) rfl rfl (Nat.le_of_ble_eq_true rfl) ⟨Nat.le_refl _, Nat.le_refl _⟩ dX8_gladOf_49 (fun r11 s11 q11 => ?_)
      obtain ⟨v11, a11, tw11, rfl, hv11, R11, A11⟩ := q11
      have hW11 := hW.fr A11
      obtain ⟨hC11, hT11, c3111, hm11, cT11, ht11, hTn11⟩ := id hW11
      obtain ⟨c711, hrr11, c1311, hn711, c1411, cK11, cN11, cW11, cD11, hN711, hW711, hD4911, hK511, hN911, hD99911⟩ := id hC11
      obtain ⟨ht711, htb11⟩ := id ht11
      refine x_stk (st' := [.int v11]) rfl ?_
      refine x_istore dX8_gladOf_52 (by decide) rfl ?_
      refine x_lv (lv' := [some (.ref 1000), some (.int (nI x)), some (.int (nI y)), some (.int (nI ((t.getD x 0)))), some (.int (nI ((K.getD ((t.getD x 0)) 0)))), some (.int (nI 1)), some (.int v11), none]) rfl ?_
      refine x_iload dX8_gladOf_54 rfl ?_
      refine x_ifN_eq (tgt := 67) dX8_gladOf_56 (by decide) (by omega) (fun hv12 => ?_) (fun hv12 => ?_)
      · exact absurd hv12 (by decide)
      · refine x_iload dX8_gladOf_59 rfl ?_
        refine x_bipush (v := nI 10) dX8_gladOf_61 (by decide) ?_
        refine x_iadd dX8_gladOf_63 ?_
        refine x_goto (tgt := 69) dX8_gladOf_64 (by decide) ?_
        refine x_istore dX8_gladOf_69 (by decide) rfl ?_
        refine x_lv (lv' := [some (.ref 1000), some (.int (nI x)), some (.int (nI y)), some (.int (nI ((t.getD x 0)))), some (.int (nI ((K.getD ((t.getD x 0)) 0)))), some (.int (nI 1)), some (.int v11), some (.int ((v11 + nI 10)))]) rfl ?_
        refine x_iload dX8_gladOf_71 rfl ?_
        refine x_iconst (v := nI 1) dX8_gladOf_73 (by decide) ?_
        refine x_icmpN_eq (tgt := 83) dX8_gladOf_74 (by decide) (by omega) (by omega) (fun hv13 => ?_) (fun hv13 => ?_)
        · refine x_iload dX8_gladOf_83 rfl ?_
          refine x_ifN_eq (tgt := 93) dX8_gladOf_85 (by decide) (by omega) (fun hv14 => ?_) (fun hv14 => ?_)
          · exact absurd hv14 (by decide)
          · refine x_iload dX8_gladOf_88 rfl ?_
            refine x_goto (tgt := 97) dX8_gladOf_90 (by decide) ?_
            exact x_iret ⟨Nat.le_refl _, Nat.le_refl _⟩ rfl dX8_gladOf_97 ⟨_, _, (by rw [gdI, ← hv11, hwb]; unfold gladI; simp only [↓reduceIte, Bool.false_eq_true]; (repeat' split) <;> first | rfl | (exfalso; omega)), R11, (FrS.rf.tr A11)⟩
        · refine x_iload dX8_gladOf_77 rfl ?_
          refine x_iconst (v := nI 3) dX8_gladOf_79 (by decide) ?_
          refine x_icmpN_ne (tgt := 98) dX8_gladOf_80 (by decide) (by omega) (by omega) (fun hv15 => ?_) (fun hv15 => ?_)
          · refine x_iload dX8_gladOf_98 rfl ?_
            refine x_iconst (v := nI 2) dX8_gladOf_100 (by decide) ?_
            refine x_icmpN_ne (tgt := 111) dX8_gladOf_101 (by decide) (by omega) (by omega) (fun hv16 => ?_) (fun hv16 => ?_)
            · refine x_iload dX8_gladOf_111 rfl ?_
              refine x_iconst (v := nI 4) dX8_gladOf_113 (by decide) ?_
              refine x_icmpN_ne (tgt := 131) dX8_gladOf_114 (by decide) (by omega) (by omega) (fun hv17 => ?_) (fun hv17 => ?_)
              · refine x_iload dX8_gladOf_131 rfl ?_
                exact x_iret ⟨Nat.le_refl _, Nat.le_refl _⟩ rfl dX8_gladOf_133 ⟨_, _, (by rw [gdI, ← hv11, hwb]; unfold gladI; simp only [↓reduceIte, Bool.false_eq_true]; (repeat' split) <;> first | rfl | (exfalso; omega)), R11, (FrS.rf.tr A11)⟩
              · refine x_iconst (v := nI 2) dX8_gladOf_117 (by decide) ?_
                refine x_iload dX8_gladOf_118 rfl ?_
                refine x_imul dX8_gladOf_120 ?_
                refine x_aload_n dX8_gladOf_121 rfl ?_
                refine x_rget f_X8_29 R11 rfl dX8_gladOf_122 ?_
                refine x_iload_n dX8_gladOf_125 rfl ?_
                refine x_rald (j := 4) (n := (t.getD x 0)) R11 rfl (by decide) rfl rfl (rlt R11 (m := 7) (by decide) rfl (by omega)) dX8_gladOf_126 ?_
                refine x_topi (y := nI ((N.getD ((t.getD x 0)) 0))) (rgN cN11) ?_
                refine x_iadd dX8_gladOf_127 ?_
                refine x_goto (tgt := 133) dX8_gladOf_128 (by decide) ?_
                exact x_iret ⟨Nat.le_refl _, Nat.le_refl _⟩ rfl dX8_gladOf_133 ⟨_, _, (by rw [gdI, ← hv11, hwb]; unfold gladI; simp only [↓reduceIte, Bool.false_eq_true]; (repeat' split) <;> first | rfl | (exfalso; omega)), R11, (FrS.rf.tr A11)⟩
            · refine x_iconst (v := nI 2) dX8_gladOf_104 (by decide) ?_
              refine x_iload dX8_gladOf_105 rfl ?_
              refine x_imul dX8_gladOf_107 ?_
              refine x_goto (tgt := 133) dX8_gladOf_108 (by decide) ?_
              exact x_iret ⟨Nat.le_refl _, Nat.le_refl _⟩ rfl dX8_gladOf_133 ⟨_, _, (by rw [gdI, ← hv11, hwb]; unfold gladI; simp only [↓reduceIte, Bool.false_eq_true]; (repeat' split) <;> first | rfl | (exfalso; omega)), R11, (FrS.rf.tr A11)⟩
          · refine x_iload dX8_gladOf_83 rfl ?_
            refine x_ifN_eq (tgt := 93) dX8_gladOf_85 (by decide) (by omega) (fun hv18 => ?_) (fun hv18 => ?_)
            · exact absurd hv18 (by decide)
            · refine x_iload dX8_gladOf_88 rfl ?_
              refine x_goto (tgt := 97) dX8_gladOf_90 (by decide) ?_
              exact x_iret ⟨Nat.le_refl _, Nat.le_refl _⟩ rfl dX8_gladOf_97 ⟨_, _, (by rw [gdI, ← hv11, hwb]; unfold gladI; simp only [↓reduceIte, Bool.false_eq_true]; (repeat' split) <;> first | rfl | (exfalso; omega)), R11, (FrS.rf.tr A11)⟩
  · refine x_iconst (v := nI 3) dX8_gladOf_21 (by decide) ?_
    exact x_iret ⟨Nat.le_refl _, Nat.le_refl _⟩ rfl dX8_gladOf_22 ⟨_, _, (by rw [gdI]; unfold gladI; (repeat' split) <;> first | rfl | (exfalso; omega)), hR, FrS.rf⟩
set_option maxHeartbeats 4000000 in
theorem r_lessens {σ0 σ : ZS} {a : Nat → Int32} {tw : Int64} {b : Nat → List Int32} {rr n : Nat} {K N : List Nat} {W : List Int32} {D : List Nat} {fr : Int32} {ru : Nat} {L S : List Nat} {lf jf m : Nat} {t : List Nat} (hR : RM σ0 σ a tw b) (hW : TW a b rr n K N W D fr ru L S lf jf m t) {p q : Nat} (hp : p < 7) (hq : q < 7) {v : Int32} {x : Int} (hv : v.toInt = x) (h1 : -2000 ≤ x) (h2 : x ≤ 2000) {D' : List Nat} (hD' : D.set (p * 7 + q) (clN (((D.getD (p * 7 + q) 0 : Nat) : Int) + x)) = D') : Cn 1 M_X8_lessens 0 0 [.ref 1000, .int (nI p), .int (nI q), .int v] σ (fun r9 σ' => r9 = none ∧ ∃ b' : Nat → List Int32, RM σ0 σ' a tw b' ∧ Fb 6 b b' ∧ b' 6 = D'.map nI) := by
  obtain ⟨hC, hT, c31, hm, cT, ht, hTn⟩ := id hW
  obtain ⟨c7, hrr, c13, hn7, c14, cK, cN, cW, cD, hN7, hW7, hD49, hK5, hN9, hD999⟩ := id hC
  obtain ⟨ht7, htb⟩ := id ht
  refine Cn.intro (lv0 := [some (.ref 1000), some (.int (nI p)), some (.int (nI q)), some (.int v), none]) rfl (Nat.le_of_ble_eq_true rfl) rfl (fun d hd => ?_)
  refine x_bipush (v := nI 7) dX8_lessens_0 (by decide) ?_
  refine x_iload_n dX8_lessens_2 rfl ?_
  refine x_imulN dX8_lessens_3 ?_
  refine x_topi (y := nI (p * 7)) (by rw [Nat.mul_comm]) ?_
  refine x_iload_n dX8_lessens_4 rfl ?_
  refine x_iaddN dX8_lessens_5 ?_
  refine x_istore dX8_lessens_6 (by decide) rfl ?_
  refine x_lv (lv' := [some (.ref 1000), some (.int (nI p)), some (.int (nI q)), some (.int v), some (.int (nI ((p * 7) + q)))]) rfl ?_
  refine x_aload_n dX8_lessens_8 rfl ?_
  refine x_rget f_X8_35 hR rfl dX8_lessens_9 ?_
  refine x_iload dX8_lessens_12 rfl ?_
  refine x_aload_n dX8_lessens_14 rfl ?_
  refine x_rget f_X8_35 hR rfl dX8_lessens_15 ?_
  refine x_iload dX8_lessens_18 rfl ?_
  refine x_rald (j := 6) (n := (p * 7) + q) hR rfl (by decide) rfl rfl (rlt hR (m := 49) (by decide) rfl (by omega)) dX8_lessens_20 ?_
  refine x_topi (y := nI ((D.getD ((p * 7) + q) 0))) (rgN cD) ?_
  refine x_iload_n dX8_lessens_21 rfl ?_
  refine x_iadd dX8_lessens_22 ?_
  refine x_iconst (v := nI 0) dX8_lessens_23 (by decide) ?_
  refine x_sipush (v := nI 999) dX8_lessens_24 (by decide) ?_
  refine x_callS m_X8_within l_X8_258 ((r_within _ _ _).mono (fun r9 σ' h => (⟨by rw [h.1, bnd_cl (hD999 _) hv h1 h2], h.2⟩ : r9 = some (.int (nI (clN (((D.getD (p * 7 + q) 0 : Nat) : Int) + x)))) ∧ σ' = σ))) (by omega) rfl rfl (Nat.le_of_ble_eq_true rfl) ⟨Nat.le_refl _, Nat.le_refl _⟩ dX8_lessens_27 (fun r1 s1 q1 => ?_)
  obtain ⟨rfl, eq1⟩ := q1
  obtain rfl := eq1.symm
  refine x_stk (st' := [.int (nI ((clN (((D.getD (p * 7 + q) 0 : Nat) : Int) + x)))), .int (nI ((p * 7) + q)), .ref 1007]) rfl ?_
  refine x_rast (j := 6) (n := (p * 7) + q) hR rfl (by decide) rfl rfl (rlt hR (m := 49) (by decide) rfl (by omega)) dX8_lessens_30 (fun sw2 Rw2 => ?_)
  exact x_vret ⟨Nat.le_refl _, Nat.le_refl _⟩ rfl dX8_lessens_31 ⟨rfl, _, Rw2, Fb.ups, by rw [← hD']; exact (rset cD)⟩
set_option maxHeartbeats 4000000 in
theorem r_settles {σ0 σ : ZS} {a : Nat → Int32} {tw : Int64} {b : Nat → List Int32} {rr n : Nat} {K N : List Nat} {W : List Int32} {D : List Nat} {fr : Int32} {ru : Nat} {L S : List Nat} {lf jf m : Nat} {t : List Nat} (hR : RM σ0 σ a tw b) (hW : TW a b rr n K N W D fr ru L S lf jf m t) {x y : Nat} (hx : x < m) (hy : y < m) : Cn 162 M_X8_settles 0 0 [.ref 1000, .int (nI x), .int (nI y)] σ (fun r9 σ' => r9 = none ∧ ∃ (a' : Nat → Int32) (tw' : Int64) (b' : Nat → List Int32), RM σ0 σ' a' tw' b' ∧ FrS a a' ∧ Fb 6 b b' ∧ b' 6 = (mtD S lf jf K N W (t.getD x 0) x (t.getD y 0) y m D).map nI) := by
  obtain ⟨hC, hT, c31, hm, cT, ht, hTn⟩ := id hW
  obtain ⟨c7, hrr, c13, hn7, c14, cK, cN, cW, cD, hN7, hW7, hD49, hK5, hN9, hD999⟩ := id hC
  obtain ⟨ht7, htb⟩ := id ht
  have hx7 := htb x
  have hy7 := htb y
  have hxn := hTn x hx
  have hyn := hTn y hy
  refine Cn.intro (lv0 := [some (.ref 1000), some (.int (nI x)), some (.int (nI y))]) rfl (Nat.le_of_ble_eq_true rfl) rfl (fun d hd => ?_)
  refine x_aload_n dX8_settles_0 rfl ?_
  refine x_aload_n dX8_settles_1 rfl ?_
  refine x_rget f_X8_41 hR rfl dX8_settles_2 ?_
  refine x_iload_n dX8_settles_5 rfl ?_
  refine x_rald (j := 7) (n := x) hR rfl (by decide) rfl rfl (rlt hR (m := 7) (by decide) rfl (by omega)) dX8_settles_6 ?_
  refine x_topi (y := nI ((t.getD x 0))) (cT _ (by omega)) ?_
  refine x_aload_n dX8_settles_7 rfl ?_
  refine x_rget f_X8_41 hR rfl dX8_settles_8 ?_
  refine x_iload_n dX8_settles_11 rfl ?_
  refine x_rald (j := 7) (n := y) hR rfl (by decide) rfl rfl (rlt hR (m := 7) (by decide) rfl (by omega)) dX8_settles_12 ?_
  refine x_topi (y := nI ((t.getD y 0))) (cT _ (by omega)) ?_
  refine x_aload_n dX8_settles_13 rfl ?_
  refine x_iload_n dX8_settles_14 rfl ?_
  refine x_iload_n dX8_settles_15 rfl ?_
  refine x_callV m_X8_letsGo l_X8_274 (r_letsGo hR hW (by omega) (by omega)) rfl hR.2.1 (by omega) rfl rfl (Nat.le_of_ble_eq_true rfl) ⟨Nat.le_refl _, Nat.le_refl _⟩ dX8_settles_16 (fun r1 s1 q1 => ?_)
  obtain ⟨a1, tw1, rfl, R1, A1⟩ := q1
  have hW1 := hW.fr A1
  obtain ⟨hC1, hT1, c311, hm1, cT1, ht1, hTn1⟩ := id hW1
  obtain ⟨c71, hrr1, c131, hn71, c141, cK1, cN1, cW1, cD1, hN71, hW71, hD491, hK51, hN91, hD9991⟩ := id hC1
  obtain ⟨ht71, htb1⟩ := id ht1
  have hd91 : (D.getD ((t.getD x 0) * 7 + (t.getD y 0)) 0) ≤ 999 := hD9991 _
  refine x_stk (st' := [.int (nI ((min (letsS (K.getD (t.getD y 0) 0) (N.getD (t.getD y 0) 0) (D.getD ((t.getD x 0) * 7 + (t.getD y 0)) 0) (tellN (factsL N W (t.getD y 0) (t.getD x 0) y m D) S 0 lf)) (D.getD ((t.getD x 0) * 7 + (t.getD y 0)) 0)))), .int (nI ((t.getD y 0))), .int (nI ((t.getD x 0))), .ref 1000]) rfl ?_
  refine x_ineg dX8_settles_19 ?_
  refine x_callV m_X8_lessens l_X8_277 (r_lessens (D' := (fgD S lf K N W (t.getD y 0) (t.getD x 0) y m D)) R1 hW1 (htb _) (htb _) (neg_nI (show (min (letsS (K.getD (t.getD y 0) 0) (N.getD (t.getD y 0) 0) (D.getD ((t.getD x 0) * 7 + (t.getD y 0)) 0) (tellN (factsL N W (t.getD y 0) (t.getD x 0) y m D) S 0 lf)) (D.getD ((t.getD x 0) * 7 + (t.getD y 0)) 0)) ≤ 2000 by omega)) (by omega) (by omega) (fgD_cl hD9991).symm) rfl R1.2.1 (by omega) rfl rfl (Nat.le_of_ble_eq_true rfl) ⟨Nat.le_refl _, Nat.le_refl _⟩ dX8_settles_20 (fun r2 s2 q2 => ?_)
  obtain ⟨rfl, b2, R2, B2, h62⟩ := q2
  have hW2 := hW1.setD B2 h62 (fgD_ok hW1.D9)
  obtain ⟨hC2, hT2, c312, hm2, cT2, ht2, hTn2⟩ := id hW2
  obtain ⟨c72, hrr2, c132, hn72, c142, cK2, cN2, cW2, cD2, hN72, hW72, hD492, hK52, hN92, hD9992⟩ := id hC2
  obtain ⟨ht72, htb2⟩ := id ht2
  refine x_stk (st' := []) rfl ?_
  refine x_aload_n dX8_settles_23 rfl ?_
  refine x_aload_n dX8_settles_24 rfl ?_
  refine x_rget f_X8_41 R2 rfl dX8_settles_25 ?_
  refine x_iload_n dX8_settles_28 rfl ?_
  refine x_rald (j := 7) (n := y) R2 rfl (by decide) rfl rfl (rlt R2 (m := 7) (by decide) rfl (by omega)) dX8_settles_29 ?_
  refine x_topi (y := nI ((t.getD y 0))) (cT2 _ (by omega)) ?_
  refine x_aload_n dX8_settles_30 rfl ?_
  refine x_rget f_X8_41 R2 rfl dX8_settles_31 ?_
  refine x_iload_n dX8_settles_34 rfl ?_
  refine x_rald (j := 7) (n := x) R2 rfl (by decide) rfl rfl (rlt R2 (m := 7) (by decide) rfl (by omega)) dX8_settles_35 ?_
  refine x_topi (y := nI ((t.getD x 0))) (cT2 _ (by omega)) ?_
  refine x_aload_n dX8_settles_36 rfl ?_
  refine x_iload_n dX8_settles_37 rfl ?_
  refine x_iload_n dX8_settles_38 rfl ?_
  refine x_callV m_X8_letsGo l_X8_274 (r_letsGo R2 hW2 (by omega) (by omega)) rfl R2.2.1 (by omega) rfl rfl (Nat.le_of_ble_eq_true rfl) ⟨Nat.le_refl _, Nat.le_refl _⟩ dX8_settles_39 (fun r3 s3 q3 => ?_)
  obtain ⟨a3, tw3, rfl, R3, A3⟩ := q3
  have hW3 := hW2.fr A3
  obtain ⟨hC3, hT3, c313, hm3, cT3, ht3, hTn3⟩ := id hW3
  obtain ⟨c73, hrr3, c133, hn73, c143, cK3, cN3, cW3, cD3, hN73, hW73, hD493, hK53, hN93, hD9993⟩ := id hC3
  obtain ⟨ht73, htb3⟩ := id ht3
  have hd93 : (((fgD S lf K N W (t.getD y 0) (t.getD x 0) y m D)).getD ((t.getD y 0) * 7 + (t.getD x 0)) 0) ≤ 999 := hD9993 _
  refine x_stk (st' := [.int (nI ((min (letsS (K.getD (t.getD x 0) 0) (N.getD (t.getD x 0) 0) (((fgD S lf K N W (t.getD y 0) (t.getD x 0) y m D)).getD ((t.getD y 0) * 7 + (t.getD x 0)) 0) (tellN (factsL N W (t.getD x 0) (t.getD y 0) x m ((fgD S lf K N W (t.getD y 0) (t.getD x 0) y m D))) S 0 lf)) (((fgD S lf K N W (t.getD y 0) (t.getD x 0) y m D)).getD ((t.getD y 0) * 7 + (t.getD x 0)) 0)))), .int (nI ((t.getD x 0))), .int (nI ((t.getD y 0))), .ref 1000]) rfl ?_
  refine x_ineg dX8_settles_42 ?_
  refine x_callV m_X8_lessens l_X8_277 (r_lessens (D' := (fgD S lf K N W (t.getD x 0) (t.getD y 0) x m ((fgD S lf K N W (t.getD y 0) (t.getD x 0) y m D)))) R3 hW3 (htb _) (htb _) (neg_nI (show (min (letsS (K.getD (t.getD x 0) 0) (N.getD (t.getD x 0) 0) (((fgD S lf K N W (t.getD y 0) (t.getD x 0) y m D)).getD ((t.getD y 0) * 7 + (t.getD x 0)) 0) (tellN (factsL N W (t.getD x 0) (t.getD y 0) x m ((fgD S lf K N W (t.getD y 0) (t.getD x 0) y m D))) S 0 lf)) (((fgD S lf K N W (t.getD y 0) (t.getD x 0) y m D)).getD ((t.getD y 0) * 7 + (t.getD x 0)) 0)) ≤ 2000 by omega)) (by omega) (by omega) (fgD_cl hD9993).symm) rfl R3.2.1 (by omega) rfl rfl (Nat.le_of_ble_eq_true rfl) ⟨Nat.le_refl _, Nat.le_refl _⟩ dX8_settles_43 (fun r4 s4 q4 => ?_)
  obtain ⟨rfl, b4, R4, B4, h64⟩ := q4
  have hW4 := hW3.setD B4 h64 (fgD_ok hW3.D9)
  obtain ⟨hC4, hT4, c314, hm4, cT4, ht4, hTn4⟩ := id hW4
  obtain ⟨c74, hrr4, c134, hn74, c144, cK4, cN4, cW4, cD4, hN74, hW74, hD494, hK54, hN94, hD9994⟩ := id hC4
  obtain ⟨ht74, htb4⟩ := id ht4
  refine x_stk (st' := []) rfl ?_
  refine x_aload_n dX8_settles_46 rfl ?_
  refine x_aload_n dX8_settles_47 rfl ?_
  refine x_rget f_X8_41 R4 rfl dX8_settles_48 ?_
  refine x_iload_n dX8_settles_51 rfl ?_
  refine x_rald (j := 7) (n := x) R4 rfl (by decide) rfl rfl (rlt R4 (m := 7) (by decide) rfl (by omega)) dX8_settles_52 ?_
  refine x_topi (y := nI ((t.getD x 0))) (cT4 _ (by omega)) ?_
  refine x_aload_n dX8_settles_53 rfl ?_
  refine x_rget f_X8_41 R4 rfl dX8_settles_54 ?_
  refine x_iload_n dX8_settles_57 rfl ?_
  refine x_rald (j := 7) (n := y) R4 rfl (by decide) rfl rfl (rlt R4 (m := 7) (by decide) rfl (by omega)) dX8_settles_58 ?_
  refine x_topi (y := nI ((t.getD y 0))) (cT4 _ (by omega)) ?_
  refine x_aload_n dX8_settles_59 rfl ?_
  refine x_iload_n dX8_settles_60 rfl ?_
  refine x_iload_n dX8_settles_61 rfl ?_
  refine x_callV m_X8_lendsOf l_X8_280 (r_lendsOf R4 hW4 (by omega) (by omega)) rfl R4.2.1 (by omega) rfl rfl (Nat.le_of_ble_eq_true rfl) ⟨Nat.le_refl _, Nat.le_refl _⟩ dX8_settles_62 (fun r5 s5 q5 => ?_)
  obtain ⟨a5, tw5, rfl, R5, A5⟩ := q5
  have hW5 := hW4.fr A5
  obtain ⟨hC5, hT5, c315, hm5, cT5, ht5, hTn5⟩ := id hW5
  obtain ⟨c75, hrr5, c135, hn75, c145, cK5, cN5, cW5, cD5, hN75, hW75, hD495, hK55, hN95, hD9995⟩ := id hC5
  obtain ⟨ht75, htb5⟩ := id ht5
  have hl95 : (lendS (K.getD (t.getD y 0) 0) (N.getD (t.getD y 0) 0) (tellN (factsL N W (t.getD y 0) (t.getD x 0) y m ((fgD S lf K N W (t.getD x 0) (t.getD y 0) x m ((fgD S lf K N W (t.getD y 0) (t.getD x 0) y m D))))) S lf jf)) ≤ 108 := lendS_b9 (hN95 _) (tellN_le _ _ _ _)
  refine x_stk (st' := [.int (nI ((lendS (K.getD (t.getD y 0) 0) (N.getD (t.getD y 0) 0) (tellN (factsL N W (t.getD y 0) (t.getD x 0) y m ((fgD S lf K N W (t.getD x 0) (t.getD y 0) x m ((fgD S lf K N W (t.getD y 0) (t.getD x 0) y m D))))) S lf jf)))), .int (nI ((t.getD y 0))), .int (nI ((t.getD x 0))), .ref 1000]) rfl ?_
  refine x_callV m_X8_lessens l_X8_277 (r_lessens (D' := (ldD S lf jf K N W (t.getD y 0) (t.getD x 0) y m ((fgD S lf K N W (t.getD x 0) (t.getD y 0) x m ((fgD S lf K N W (t.getD y 0) (t.getD x 0) y m D)))))) R5 hW5 (htb _) (htb _) (tI_nI (show (lendS (K.getD (t.getD y 0) 0) (N.getD (t.getD y 0) 0) (tellN (factsL N W (t.getD y 0) (t.getD x 0) y m ((fgD S lf K N W (t.getD x 0) (t.getD y 0) x m ((fgD S lf K N W (t.getD y 0) (t.getD x 0) y m D))))) S lf jf)) < 2147483648 by omega)) (by omega) (by omega) ldD_cl.symm) rfl R5.2.1 (by omega) rfl rfl (Nat.le_of_ble_eq_true rfl) ⟨Nat.le_refl _, Nat.le_refl _⟩ dX8_settles_65 (fun r6 s6 q6 => ?_)
  obtain ⟨rfl, b6, R6, B6, h66⟩ := q6
  have hW6 := hW5.setD B6 h66 (ldD_ok hW5.D9)
  obtain ⟨hC6, hT6, c316, hm6, cT6, ht6, hTn6⟩ := id hW6
  obtain ⟨c76, hrr6, c136, hn76, c146, cK6, cN6, cW6, cD6, hN76, hW76, hD496, hK56, hN96, hD9996⟩ := id hC6
  obtain ⟨ht76, htb6⟩ := id ht6
  refine x_stk (st' := []) rfl ?_
  refine x_aload_n dX8_settles_68 rfl ?_
  refine x_aload_n dX8_settles_69 rfl ?_
  refine x_rget f_X8_41 R6 rfl dX8_settles_70 ?_
  refine x_iload_n dX8_settles_73 rfl ?_
  refine x_rald (j := 7) (n := y) R6 rfl (by decide) rfl rfl (rlt R6 (m := 7) (by decide) rfl (by omega)) dX8_settles_74 ?_
  refine x_topi (y := nI ((t.getD y 0))) (cT6 _ (by omega)) ?_
  refine x_aload_n dX8_settles_75 rfl ?_
  refine x_rget f_X8_41 R6 rfl dX8_settles_76 ?_
  refine x_iload_n dX8_settles_79 rfl ?_
  refine x_rald (j := 7) (n := x) R6 rfl (by decide) rfl rfl (rlt R6 (m := 7) (by decide) rfl (by omega)) dX8_settles_80 ?_
  refine x_topi (y := nI ((t.getD x 0))) (cT6 _ (by omega)) ?_
  refine x_aload_n dX8_settles_81 rfl ?_
  refine x_iload_n dX8_settles_82 rfl ?_
  refine x_iload_n dX8_settles_83 rfl ?_
  refine x_callV m_X8_lendsOf l_X8_280 (r_lendsOf R6 hW6 (by omega) (by omega)) rfl R6.2.1 (by omega) rfl rfl (Nat.le_of_ble_eq_true rfl) ⟨Nat.le_refl _, Nat.le_refl _⟩ dX8_settles_84 (fun r7 s7 q7 => ?_)
  obtain ⟨a7, tw7, rfl, R7, A7⟩ := q7
  have hW7 := hW6.fr A7
  obtain ⟨hC7, hT7, c317, hm7, cT7, ht7, hTn7⟩ := id hW7
  obtain ⟨c77, hrr7, c137, hn77, c147, cK7, cN7, cW7, cD7, hN77, hW77, hD497, hK57, hN97, hD9997⟩ := id hC7
  obtain ⟨ht77, htb7⟩ := id ht7
  have hl97 : (lendS (K.getD (t.getD x 0) 0) (N.getD (t.getD x 0) 0) (tellN (factsL N W (t.getD x 0) (t.getD y 0) x m ((ldD S lf jf K N W (t.getD y 0) (t.getD x 0) y m ((fgD S lf K N W (t.getD x 0) (t.getD y 0) x m ((fgD S lf K N W (t.getD y 0) (t.getD x 0) y m D))))))) S lf jf)) ≤ 108 := lendS_b9 (hN97 _) (tellN_le _ _ _ _)
  refine x_stk (st' := [.int (nI ((lendS (K.getD (t.getD x 0) 0) (N.getD (t.getD x 0) 0) (tellN (factsL N W (t.getD x 0) (t.getD y 0) x m ((ldD S lf jf K N W (t.getD y 0) (t.getD x 0) y m ((fgD S lf K N W (t.getD x 0) (t.getD y 0) x m ((fgD S lf K N W (t.getD y 0) (t.getD x 0) y m D))))))) S lf jf)))), .int (nI ((t.getD x 0))), .int (nI ((t.getD y 0))), .ref 1000]) rfl ?_
  refine x_callV m_X8_lessens l_X8_277 (r_lessens (D' := (ldD S lf jf K N W (t.getD x 0) (t.getD y 0) x m ((ldD S lf jf K N W (t.getD y 0) (t.getD x 0) y m ((fgD S lf K N W (t.getD x 0) (t.getD y 0) x m ((fgD S lf K N W (t.getD y 0) (t.getD x 0) y m D)))))))) R7 hW7 (htb _) (htb _) (tI_nI (show (lendS (K.getD (t.getD x 0) 0) (N.getD (t.getD x 0) 0) (tellN (factsL N W (t.getD x 0) (t.getD y 0) x m ((ldD S lf jf K N W (t.getD y 0) (t.getD x 0) y m ((fgD S lf K N W (t.getD x 0) (t.getD y 0) x m ((fgD S lf K N W (t.getD y 0) (t.getD x 0) y m D))))))) S lf jf)) < 2147483648 by omega)) (by omega) (by omega) ldD_cl.symm) rfl R7.2.1 (by omega) rfl rfl (Nat.le_of_ble_eq_true rfl) ⟨Nat.le_refl _, Nat.le_refl _⟩ dX8_settles_87 (fun r8 s8 q8 => ?_)
  obtain ⟨rfl, b8, R8, B8, h68⟩ := q8
  have hW8 := hW7.setD B8 h68 (ldD_ok hW7.D9)
  obtain ⟨hC8, hT8, c318, hm8, cT8, ht8, hTn8⟩ := id hW8
  obtain ⟨c78, hrr8, c138, hn78, c148, cK8, cN8, cW8, cD8, hN78, hW78, hD498, hK58, hN98, hD9998⟩ := id hC8
  obtain ⟨ht78, htb8⟩ := id ht8
  refine x_stk (st' := []) rfl ?_
  exact x_vret ⟨Nat.le_refl _, Nat.le_refl _⟩ rfl dX8_settles_90 ⟨rfl, _, _, _, R8, ((((FrS.rf.tr A1).tr A3).tr A5).tr A7), ((((Fb.rf.tr B2).tr B4).tr B6).tr B8), cD8⟩
