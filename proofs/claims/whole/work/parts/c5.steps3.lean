theorem so3 {so : Int32} (h : 0 ≤ so.toInt ∧ so.toInt ≤ 2) : so = -1 ∨ so = nI 0 ∨ so = nI 1 ∨ so = nI 2 := by
  obtain ⟨k, hk, rfl⟩ := in_n (m := 2) h
  rcases (show k = 0 ∨ k = 1 ∨ k = 2 by omega) with rfl | rfl | rfl
  · exact Or.inr (Or.inl rfl)
  · exact Or.inr (Or.inr (Or.inl rfl))
  · exact Or.inr (Or.inr (Or.inr rfl))
theorem RIv.tx {rr dn ru n : Nat} {K N : List Nat} {W : List Int32} {D : List Nat} {kp : Bool} {r2 d2 u2 n2 : Nat} {K2 N2 : List Nat} {W2 : List Int32} {D2 : List Nat} {TX : List (List Nat)} {tp : List Nat} {sh : Nat → SH} {a a' : Nat → Int32} {b b' : Nat → List Int32} (h : RIv a b rr dn ru n K N W D kp r2 d2 u2 n2 K2 N2 W2 D2 TX tp sh) {TX' : List (List Nat)} {tp' : List Nat} (hA : ∀ j, ¬ (21 ≤ j ∧ j ≤ 29) → j ≠ 3 → j ≠ 6 → a' j = a j) (hB : ∀ j, j ≠ 0 → j ≠ 1 → b' j = b j) (hX : RTX a' b' TX') (hT : RTP a' b' tp') : RIv a' b' rr dn ru n K N W D kp r2 d2 u2 n2 K2 N2 W2 D2 TX' tp' sh := by
  obtain ⟨iC, i8, i4, -, -, iS, ikt, ikf⟩ := h
  obtain ⟨c7, hrr, c13, hn7, c14, cK, cN, cW, cD, r⟩ := iC
  refine ⟨⟨(hA 7 (by omega) (by omega) (by omega)).trans c7, hrr, (hA 13 (by omega) (by omega) (by omega)).trans c13, hn7, (hA 14 (by omega) (by omega) (by omega)).trans c14, fun i hi => ?_, ?_, ?_, ?_, r⟩, (hA 8 (by omega) (by omega) (by omega)).trans i8, (hA 4 (by omega) (by omega) (by omega)).trans i4, hX, hT, iS.fr (hB 13 (by omega) (by omega)) (hB 14 (by omega) (by omega)) (hB 15 (by omega) (by omega)) (hB 16 (by omega) (by omega)), fun hk => ?_, fun hk => (hA 44 (by omega) (by omega) (by omega)).trans (ikf hk)⟩
  · rw [hB 3 (by omega) (by omega)]; exact cK i hi
  · rw [hB 4 (by omega) (by omega)]; exact cN
  · rw [hB 5 (by omega) (by omega)]; exact cW
  · rw [hB 6 (by omega) (by omega)]; exact cD
  · obtain ⟨y1, y2, y3, y4, y5, y6, y7⟩ := ikt hk
    exact ⟨(hA 44 (by omega) (by omega) (by omega)).trans y1, (hA 45 (by omega) (by omega) (by omega)).trans y2, (hA 46 (by omega) (by omega) (by omega)).trans y3, (hA 47 (by omega) (by omega) (by omega)).trans y4, (hB 10 (by omega) (by omega)).trans y5, (hB 11 (by omega) (by omega)).trans y6, (hB 12 (by omega) (by omega)).trans y7⟩
theorem snl_getD {TX : List (List Nat)} {v : List Nat} {j : Nat} (h : j < TX.length) : (TX ++ [v]).getD j [] = TX.getD j [] := by
  rw [List.getD_eq_getElem?_getD, List.getD_eq_getElem?_getD, List.getElem?_append_left h]
theorem snl_last {TX : List (List Nat)} {v : List Nat} : (TX ++ [v]).getD TX.length [] = v := by
  rw [List.getD_eq_getElem?_getD, List.getElem?_append_right (Nat.le_refl _), Nat.sub_self]
  rfl
set_option maxHeartbeats 4000000 in
theorem s_film {σ : ZS} (h : INV σ) (x : Int32) : Spq M_X7_film M_X8_film 0 0 [.int x] σ := by
  obtain ⟨rr, dn, ru, n, K, N, W, D, kp, r2, d2, u2, n2, K2, N2, W2, D2, TX, tp, sh, a, tw, b, hC, hP, hR, hI⟩ := h
  obtain ⟨k0, p1, p6, p11, sj, tx, rd, cs, ln⟩ := id hC
  obtain ⟨hrr, hdn, hru, hg, hz, hr2, hd2, hu2, hg2, hz2, hkp, hTX, htp, hsh⟩ := id hP
  obtain ⟨iC, i8, i4, iX, iT, iS, ikt, ikf⟩ := id hI
  obtain ⟨c7, hrr9, c13, hn7, c14, cK, cN, cW, cD, hN7, hW7, hD49, hK5, hN9, hD999⟩ := id iC
  have hT1 := hTX.1
  have hT6 := hTX.2.1
  obtain ⟨S, lf, jf, hp, hM⟩ := tx.ma hru hT6
  have bw := fun (x : Unit) => hI.bw hP hp
  have cR := rIx_c ru
  have tI := fun (k : Nat) (hk : k < 2147483648) => nI_toInt hk
  by_cases hx : 0 ≤ x.toInt ∧ x.toInt ≤ ((3 : Nat) : Int)
  · obtain ⟨i, hi3, rfl⟩ := in_n hx
    have hi : i < 4 := by omega
    have zc := c_film k0 p1 hrr hM sj cs hsh hi
    cases hB : bstB (totB (vW false S lf jf K N W D n) (decide (rr = 1)) n) (lwf (decide (rr = 1)) (2 ^ n - 1) (wlS K N D n (2 ^ n - 1) (-1))) with
    | none =>
      rw [hB] at zc
      exact Spq.of (show PIv rr dn ru n K N W D kp r2 d2 u2 n2 K2 N2 W2 D2 TX tp (up sh i (nI 0, 0, List.replicate 40 0)) from ⟨hrr, hdn, hru, hg, hz, hr2, hd2, hu2, hg2, hz2, hkp, hTX, htp, SHG_up hsh (Or.inr (Or.inl rfl)) (by omega) (by simp)⟩) hR (zc.post (fun r σ1 q => ⟨q.1, hC.sc hru hT6 q.2.2.2.2.2 (fun i q => by omega) q.2.2.1 (p11.fr q.2.2.2.2.2 (fun i h1 h2 => by omega)) q.2.2.2.2.1 hp q.2.2.2.1 q.2.1⟩)) (by omega) (fun σ1 R1 => by have zr := r_film R1 (bw ()) hg iS hsh hi; rw [hB] at zr; exact zr.post (fun r σ2 q => by obtain ⟨q1, a', tw', b', q2, q3, q4, q5⟩ := q; exact ⟨q1, a', tw', b', q2, hI.sh q3 (fun j hj => q4 j (by omega) (by omega) (by omega) (by omega) (by omega) (by omega)) q5⟩)) (by omega)
    | some y =>
      rw [hB] at zc
      exact Spq.of (show PIv rr dn ru n K N W D kp r2 d2 u2 n2 K2 N2 W2 D2 TX tp (up sh i (nI 0, n, flR n y)) from ⟨hrr, hdn, hru, hg, hz, hr2, hd2, hu2, hg2, hz2, hkp, hTX, htp, SHG_up hsh (Or.inr (Or.inl rfl)) (by omega) (by rw [flR, List.length_map, List.length_range])⟩) hR (zc.post (fun r σ1 q => ⟨q.1, hC.sc hru hT6 q.2.2.2.2.2 (fun i q => by omega) q.2.2.1 (p11.fr q.2.2.2.2.2 (fun i h1 h2 => by omega)) q.2.2.2.2.1 hp q.2.2.2.1 q.2.1⟩)) (by omega) (fun σ1 R1 => by have zr := r_film R1 (bw ()) hg iS hsh hi; rw [hB] at zr; exact zr.post (fun r σ2 q => by obtain ⟨q1, a', tw', b', q2, q3, q4, q5⟩ := q; exact ⟨q1, a', tw', b', q2, hI.sh q3 (fun j hj => q4 j (by omega) (by omega) (by omega) (by omega) (by omega) (by omega)) q5⟩)) (by omega)
  · exact Spq.of hP hR (Cn.c0 hC (c_film_b k0 hx)) (by omega) (fun σ1 R1 => Cn.r0 hI R1 (r_film_b R1 (bw ()) hx)) (by omega)
set_option maxHeartbeats 4000000 in
theorem s_drawn {σ : ZS} (h : INV σ) (x : Int32) : Spq M_X7_drawn M_X8_drawn 0 0 [.int x] σ := by
  obtain ⟨rr, dn, ru, n, K, N, W, D, kp, r2, d2, u2, n2, K2, N2, W2, D2, TX, tp, sh, a, tw, b, hC, hP, hR, hI⟩ := h
  obtain ⟨k0, p1, p6, p11, sj, tx, rd, cs, ln⟩ := id hC
  obtain ⟨hrr, hdn, hru, hg, hz, hr2, hd2, hu2, hg2, hz2, hkp, hTX, htp, hsh⟩ := id hP
  obtain ⟨iC, i8, i4, iX, iT, iS, ikt, ikf⟩ := id hI
  obtain ⟨c7, hrr9, c13, hn7, c14, cK, cN, cW, cD, hN7, hW7, hD49, hK5, hN9, hD999⟩ := id iC
  have hT1 := hTX.1
  have hT6 := hTX.2.1
  obtain ⟨S, lf, jf, hp, hM⟩ := tx.ma hru hT6
  have bw := fun (x : Unit) => hI.bw hP hp
  have cR := rIx_c ru
  have tI := fun (k : Nat) (hk : k < 2147483648) => nI_toInt hk
  exact Spq.of hP hR ((c_drawn k0 p1 hrr p11 sj (sd := x)).post (fun r σ1 q => ⟨q.1, hC.sj hru hT6 q.2.2.2 (fun i q => by omega) q.2.2.1 q.2.1⟩)) (by omega) (fun σ1 R1 => (r_drawn R1 (bw ()) hg (sd := x)).post (fun r σ2 q => by obtain ⟨a', tw', b', q1, q2, q3, q4⟩ := q; exact ⟨q1, a', tw', b', q2, hI.fr q3 q4⟩)) (by omega)
set_option maxHeartbeats 4000000 in
theorem s_chance {σ : ZS} (h : INV σ) (x y w : Int32) : SpqL M_X7_chance M_X8_chance 0 0 [.int x, .int y, .int w] σ := by
  obtain ⟨rr, dn, ru, n, K, N, W, D, kp, r2, d2, u2, n2, K2, N2, W2, D2, TX, tp, sh, a, tw, b, hC, hP, hR, hI⟩ := h
  obtain ⟨k0, p1, p6, p11, sj, tx, rd, cs, ln⟩ := id hC
  obtain ⟨hrr, hdn, hru, hg, hz, hr2, hd2, hu2, hg2, hz2, hkp, hTX, htp, hsh⟩ := id hP
  obtain ⟨iC, i8, i4, iX, iT, iS, ikt, ikf⟩ := id hI
  obtain ⟨c7, hrr9, c13, hn7, c14, cK, cN, cW, cD, hN7, hW7, hD49, hK5, hN9, hD999⟩ := id iC
  have hT1 := hTX.1
  have hT6 := hTX.2.1
  obtain ⟨S, lf, jf, hp, hM⟩ := tx.ma hru hT6
  have bw := fun (x : Unit) => hI.bw hP hp
  have cR := rIx_c ru
  have tI := fun (k : Nat) (hk : k < 2147483648) => nI_toInt hk
  by_cases hb : (1 ≤ y.toInt ∧ y.toInt ≤ 20) ∧ (0 ≤ w.toInt ∧ w.toInt ≤ ((1 : Nat) : Int))
  · obtain ⟨hy, hw⟩ := hb
    obtain ⟨k, hk, rfl⟩ := in_n (x := y) (m := 20) (by omega)
    have ek := tI k (by omega)
    obtain ⟨w, hw1, rfl⟩ := in_n hw
    rcases (show w = 0 ∨ w = 1 by omega) with rfl | rfl
    · have e : (nI 0).toInt = 0 := by decide
      exact SpqL.of hP hR ((c_chance0 k0 p1 hrr sj p11 (sd := x) (cnt := k) (by omega) hk).post (fun r σ1 q => ⟨q.1, hC.sj hru hT6 q.2.2.2 (fun i q => by omega) q.2.2.1 q.2.1⟩)) (by omega) (fun σ1 R1 => Cn.r2 hI ((by have z := r_chance R1 (bw ()) hg (sd := x) (cnt := k) (pt := nI 0) (by omega) hk (by decide); rw [e] at z; exact z))) (by omega)
    · have e : (nI 1).toInt = 1 := by decide
      exact SpqL.of hP hR ((c_chance1 k0 p1 hrr sj p11 (sd := x) (cnt := k) (by omega) hk).post (fun r σ1 q => ⟨q.1, hC.sj hru hT6 q.2.2.2 (fun i q => by omega) q.2.2.1 q.2.1⟩)) (by omega) (fun σ1 R1 => Cn.r2 hI ((by have z := r_chance R1 (bw ()) hg (sd := x) (cnt := k) (pt := nI 1) (by omega) hk (by decide); rw [e] at z; exact z))) (by omega)
  · exact SpqL.of hP hR (Cn.c0 hC (c_chance_b k0 (sd := x) (by omega))) (by omega) (fun σ1 R1 => Cn.r0 hI R1 (r_chance_b R1 (bw ()) (sd := x) (by omega))) (by omega)
set_option maxHeartbeats 4000000 in
theorem s_image {σ : ZS} (h : INV σ) : Spq M_X7_image M_X8_image 0 0 [] σ := by
  obtain ⟨rr, dn, ru, n, K, N, W, D, kp, r2, d2, u2, n2, K2, N2, W2, D2, TX, tp, sh, a, tw, b, hC, hP, hR, hI⟩ := h
  obtain ⟨k0, p1, p6, p11, sj, tx, rd, cs, ln⟩ := id hC
  obtain ⟨hrr, hdn, hru, hg, hz, hr2, hd2, hu2, hg2, hz2, hkp, hTX, htp, hsh⟩ := id hP
  obtain ⟨iC, i8, i4, iX, iT, iS, ikt, ikf⟩ := id hI
  obtain ⟨c7, hrr9, c13, hn7, c14, cK, cN, cW, cD, hN7, hW7, hD49, hK5, hN9, hD999⟩ := id iC
  have hT1 := hTX.1
  have hT6 := hTX.2.1
  obtain ⟨S, lf, jf, hp, hM⟩ := tx.ma hru hT6
  have bw := fun (x : Unit) => hI.bw hP hp
  have cR := rIx_c ru
  have tI := fun (k : Nat) (hk : k < 2147483648) => nI_toInt hk
  exact Spq.of (show PIv rr dn ru n K N W D true rr dn ru n K N W D TX tp sh from ⟨hrr, hdn, hru, hg, hz, hrr, hdn, hru, hg, hz, fun _ => ⟨Nat.le_refl _, fun i hi => rfl⟩, hTX, htp, hsh⟩) hR ((c_image k0 p1 ⟨_, _, _, _, _, _, _, _, p6⟩).post (fun r σ1 q => by obtain ⟨q1, q2, q3, q4⟩ := q; have tx' := tx.fr q4 (fun i hi => by omega); have cs' := cs.fr q4 (fun i h1 h2 => by omega); exact ⟨q1, ⟨by rw [bI_t]; exact q2, p1.fr q4 (fun i h1 h2 => by omega), q3, p11.fr q4 (fun i h1 h2 => by omega), sj.fr q4 (fun i hi => by omega), tx', rd.fr q4 (fun i hi => by omega), cs', Ln.cl q4 ln tx' cs' hru hT6 (fun i q => by omega)⟩, q4.fc (fun i hi => by omega)⟩)) (by omega) (fun σ1 R1 => (r_image R1 c13 c7 i8 i4).post (fun r σ2 q => by obtain ⟨q1, b', q2, q3, q4, q5, q6⟩ := q; exact ⟨q1, _, tw, b', q2, ⟨⟨c7, hrr9, c13, hn7, c14, fun i hi => by rw [q3 3 (by omega) (by omega) (by omega)]; exact cK i hi, (q3 4 (by omega) (by omega) (by omega)).trans cN, (q3 5 (by omega) (by omega) (by omega)).trans cW, (q3 6 (by omega) (by omega) (by omega)).trans cD, hN7, hW7, hD49, hK5, hN9, hD999⟩, i8, i4, ⟨iX.1, fun i hi => by rw [q3 0 (by omega) (by omega) (by omega), q3 1 (by omega) (by omega) (by omega)]; exact iX.2 i hi⟩, ⟨iT.1, fun j hj => by rw [q3 2 (by omega) (by omega) (by omega)]; exact iT.2 j hj⟩, iS.fr (q3 13 (by omega) (by omega) (by omega)) (q3 14 (by omega) (by omega) (by omega)) (q3 15 (by omega) (by omega) (by omega)) (q3 16 (by omega) (by omega) (by omega)), fun _ => ⟨rfl, rfl, rfl, rfl, q4.trans cN, q5.trans cW, q6.trans cD⟩, fun hk => Bool.noConfusion hk⟩⟩)) (by omega)
set_option maxHeartbeats 4000000 in
theorem s_back {σ : ZS} (h : INV σ) : Spq M_X7_back M_X8_back 0 0 [] σ := by
  obtain ⟨rr, dn, ru, n, K, N, W, D, kp, r2, d2, u2, n2, K2, N2, W2, D2, TX, tp, sh, a, tw, b, hC, hP, hR, hI⟩ := h
  obtain ⟨k0, p1, p6, p11, sj, tx, rd, cs, ln⟩ := id hC
  obtain ⟨hrr, hdn, hru, hg, hz, hr2, hd2, hu2, hg2, hz2, hkp, hTX, htp, hsh⟩ := id hP
  obtain ⟨iC, i8, i4, iX, iT, iS, ikt, ikf⟩ := id hI
  obtain ⟨c7, hrr9, c13, hn7, c14, cK, cN, cW, cD, hN7, hW7, hD49, hK5, hN9, hD999⟩ := id iC
  have hT1 := hTX.1
  have hT6 := hTX.2.1
  obtain ⟨S, lf, jf, hp, hM⟩ := tx.ma hru hT6
  have bw := fun (x : Unit) => hI.bw hP hp
  have cR := rIx_c ru
  have tI := fun (k : Nat) (hk : k < 2147483648) => nI_toInt hk
  cases kp with
  | false =>
    have k1 := k0
    rw [bI_f] at k1
    exact Spq.of hP hR (Cn.c0 hC (c_back_b k1)) (by omega) (fun σ1 R1 => Cn.r0 hI R1 (r_back_b R1 (ikf rfl))) (by omega)
  | true =>
    have k1 := k0
    rw [bI_t] at k1
    obtain ⟨y1, y2, y3, y4, y5, y6, y7⟩ := ikt rfl
    obtain ⟨hk1, hk2⟩ := hkp rfl
    obtain ⟨-, -, -, -, -, z1, z2, z3, z4, z5, z6, z7, z8⟩ := id p6
    exact Spq.of (show PIv r2 d2 u2 n2 K2 N2 W2 D2 true r2 d2 u2 n2 K2 N2 W2 D2 TX tp sh from ⟨hr2, hd2, hu2, hg2, hz2, hr2, hd2, hu2, hg2, hz2, fun _ => ⟨Nat.le_refl _, fun i hi => rfl⟩, hTX, htp, hsh⟩) hR ((c_back k1 p1 p6).post (fun r σ1 q => ⟨q.1, hC.p1 hru hT6 q.2.1 q.2.2⟩)) (by omega) (fun σ1 R1 => (r_back R1 y1 z1 y2 y3 y4).post (fun r σ2 q => by obtain ⟨q1, b', q2, q3, q4, q5, q6⟩ := q; exact ⟨q1, _, tw, b', q2, hI.pt ⟨rfl, hr2, rfl, z1, c14, fun i hi => by rw [q3 3 (by omega) (by omega) (by omega), ← hk2 i hi]; exact cK i (by omega), q4.trans y5, q5.trans y6, q6.trans y7, z3, z4, z5, z6, z7, z8⟩ rfl rfl (fun j hj => (up_ne _ _ (by omega)).trans ((up_ne _ _ (by omega)).trans ((up_ne _ _ (by omega)).trans (up_ne _ _ (by omega))))) (fun j hj => q3 j (by omega) (by omega) (by omega))⟩)) (by omega)
set_option maxHeartbeats 4000000 in
theorem s_sheet {σ : ZS} (h : INV σ) (x y v : Int32) : Spq M_X7_sheet M_X8_sheet 0 0 [.int x, .int y, .int v] σ := by
  obtain ⟨rr, dn, ru, n, K, N, W, D, kp, r2, d2, u2, n2, K2, N2, W2, D2, TX, tp, sh, a, tw, b, hC, hP, hR, hI⟩ := h
  obtain ⟨k0, p1, p6, p11, sj, tx, rd, cs, ln⟩ := id hC
  obtain ⟨hrr, hdn, hru, hg, hz, hr2, hd2, hu2, hg2, hz2, hkp, hTX, htp, hsh⟩ := id hP
  obtain ⟨iC, i8, i4, iX, iT, iS, ikt, ikf⟩ := id hI
  obtain ⟨c7, hrr9, c13, hn7, c14, cK, cN, cW, cD, hN7, hW7, hD49, hK5, hN9, hD999⟩ := id iC
  have hT1 := hTX.1
  have hT6 := hTX.2.1
  obtain ⟨S, lf, jf, hp, hM⟩ := tx.ma hru hT6
  have bw := fun (x : Unit) => hI.bw hP hp
  have cR := rIx_c ru
  have tI := fun (k : Nat) (hk : k < 2147483648) => nI_toInt hk
  by_cases hb : (0 ≤ x.toInt ∧ x.toInt ≤ ((3 : Nat) : Int)) ∧ (-1 ≤ y.toInt ∧ y.toInt ≤ 2) ∧ ¬ (0 ≤ y.toInt ∧ 40 < v.toInt)
  · obtain ⟨hx, hy, hn⟩ := hb
    obtain ⟨i, hi3, rfl⟩ := in_n hx
    have hi : i < 4 := by omega
    by_cases hm : y.toInt = -1
    · obtain rfl := m1_of hm
      exact Spq.of (show PIv rr dn ru n K N W D kp r2 d2 u2 n2 K2 N2 W2 D2 TX tp (up sh i (-1, 0, List.replicate 40 0)) from ⟨hrr, hdn, hru, hg, hz, hr2, hd2, hu2, hg2, hz2, hkp, hTX, htp, SHG_up hsh (Or.inl rfl) (by omega) (by simp)⟩) hR ((c_sheet_m k0 cs hsh hi (n := v)).post (fun r σ1 q => ⟨q.1, hC.cs hru hT6 hi q.2.1 q.2.2⟩)) (by omega) (fun σ1 R1 => (r_sheet_m R1 iS hsh hi (n := v)).post (fun r σ2 q => by obtain ⟨q1, b', q2, q3, q4⟩ := q; exact ⟨q1, a, tw, b', q2, hI.sh FrR.rf (fun j hj => q3 j (by omega) (by omega) (by omega) (by omega)) q4⟩)) (by omega)
    · have hso : 0 ≤ y.toInt ∧ y.toInt ≤ 2 := by omega
      by_cases hv : v.toInt < 0
      · exact Spq.of hP hR (Cn.c0 hC (c_sheet_b2 k0 hi hso hv)) (by omega) (fun σ1 R1 => Cn.r0 hI R1 (r_sheet_b2 R1 hi hso hv)) (by omega)
      · obtain ⟨z, hz40, rfl⟩ := in_n (x := v) (m := 40) (by omega)
        exact Spq.of (show PIv rr dn ru n K N W D kp r2 d2 u2 n2 K2 N2 W2 D2 TX tp (up sh i (y, z, List.replicate 40 0)) from ⟨hrr, hdn, hru, hg, hz, hr2, hd2, hu2, hg2, hz2, hkp, hTX, htp, SHG_up hsh (so3 hso) hz40 (by simp)⟩) hR ((c_sheet k0 cs hsh hi hso hz40).post (fun r σ1 q => ⟨q.1, hC.cs hru hT6 hi q.2.1 q.2.2⟩)) (by omega) (fun σ1 R1 => (r_sheet R1 iS hsh hi hso hz40).post (fun r σ2 q => by obtain ⟨q1, b', q2, q3, q4⟩ := q; exact ⟨q1, a, tw, b', q2, hI.sh FrR.rf (fun j hj => q3 j (by omega) (by omega) (by omega) (by omega)) q4⟩)) (by omega)
  · exact Spq.of hP hR (Cn.c0 hC (c_sheet_b1 k0 (by omega))) (by omega) (fun σ1 R1 => Cn.r0 hI R1 (r_sheet_b1 R1 (by omega))) (by omega)
set_option maxHeartbeats 4000000 in
theorem s_cell {σ : ZS} (h : INV σ) (x y v : Int32) : Spq M_X7_cell M_X8_cell 0 0 [.int x, .int y, .int v] σ := by
  obtain ⟨rr, dn, ru, n, K, N, W, D, kp, r2, d2, u2, n2, K2, N2, W2, D2, TX, tp, sh, a, tw, b, hC, hP, hR, hI⟩ := h
  obtain ⟨k0, p1, p6, p11, sj, tx, rd, cs, ln⟩ := id hC
  obtain ⟨hrr, hdn, hru, hg, hz, hr2, hd2, hu2, hg2, hz2, hkp, hTX, htp, hsh⟩ := id hP
  obtain ⟨iC, i8, i4, iX, iT, iS, ikt, ikf⟩ := id hI
  obtain ⟨c7, hrr9, c13, hn7, c14, cK, cN, cW, cD, hN7, hW7, hD49, hK5, hN9, hD999⟩ := id iC
  have hT1 := hTX.1
  have hT6 := hTX.2.1
  obtain ⟨S, lf, jf, hp, hM⟩ := tx.ma hru hT6
  have bw := fun (x : Unit) => hI.bw hP hp
  have cR := rIx_c ru
  have tI := fun (k : Nat) (hk : k < 2147483648) => nI_toInt hk
  by_cases hx : 0 ≤ x.toInt ∧ x.toInt ≤ ((3 : Nat) : Int)
  · obtain ⟨i, hi3, rfl⟩ := in_n hx
    have hi : i < 4 := by omega
    by_cases hm : (sh i).1 = -1
    · exact Spq.of hP hR (Cn.c0 hC (c_cell_b1 k0 cs hsh hi hm (j := y) (v := v))) (by omega) (fun σ1 R1 => Cn.r0 hI R1 (r_cell_b1 R1 iS hsh hi hm (j := y) (v := v))) (by omega)
    · by_cases hj : 0 ≤ y.toInt ∧ y.toInt < (((sh i).2.1 : Nat) : Int)
      · obtain ⟨j, hj2, rfl⟩ := in_l hj
        exact Spq.of (show PIv rr dn ru n K N W D kp r2 d2 u2 n2 K2 N2 W2 D2 TX tp (up sh i ((sh i).1, (sh i).2.1, (sh i).2.2.set j (putV (sh i).1 v))) from ⟨hrr, hdn, hru, hg, hz, hr2, hd2, hu2, hg2, hz2, hkp, hTX, htp, SHG_up hsh (hsh i hi).1 (hsh i hi).2.1 (by rw [List.length_set]; exact (hsh i hi).2.2)⟩) hR ((c_cell k0 cs hsh hi hm hj2 (v := v)).post (fun r σ1 q => ⟨q.1, hC.cs hru hT6 hi q.2.1 q.2.2⟩)) (by omega) (fun σ1 R1 => (r_cell R1 iS hsh hi hm hj2 (v := v)).post (fun r σ2 q => by obtain ⟨q1, b', q2, q3, q4⟩ := q; exact ⟨q1, a, tw, b', q2, hI.sh FrR.rf (fun j hj => q3 j (by omega)) q4⟩)) (by omega)
      · exact Spq.of hP hR (Cn.c0 hC (c_cell_b2 k0 cs hsh hi hm hj (v := v))) (by omega) (fun σ1 R1 => Cn.r0 hI R1 (r_cell_b2 R1 iS hsh hi hm hj (v := v))) (by omega)
  · exact Spq.of hP hR (Cn.c0 hC (c_cell_b0 k0 (j := y) (v := v) hx)) (by omega) (fun σ1 R1 => Cn.r0 hI R1 (r_cell_b0 R1 (j := y) (v := v) hx)) (by omega)
set_option maxHeartbeats 4000000 in
theorem s_copy {σ : ZS} (h : INV σ) (x p y q z : Int32) : Spq M_X7_copy M_X8_copy 0 0 [.int x, .int p, .int y, .int q, .int z] σ := by
  obtain ⟨rr, dn, ru, n, K, N, W, D, kp, r2, d2, u2, n2, K2, N2, W2, D2, TX, tp, sh, a, tw, b, hC, hP, hR, hI⟩ := h
  obtain ⟨k0, p1, p6, p11, sj, tx, rd, cs, ln⟩ := id hC
  obtain ⟨hrr, hdn, hru, hg, hz, hr2, hd2, hu2, hg2, hz2, hkp, hTX, htp, hsh⟩ := id hP
  obtain ⟨iC, i8, i4, iX, iT, iS, ikt, ikf⟩ := id hI
  obtain ⟨c7, hrr9, c13, hn7, c14, cK, cN, cW, cD, hN7, hW7, hD49, hK5, hN9, hD999⟩ := id iC
  have hT1 := hTX.1
  have hT6 := hTX.2.1
  obtain ⟨S, lf, jf, hp, hM⟩ := tx.ma hru hT6
  have bw := fun (x : Unit) => hI.bw hP hp
  have cR := rIx_c ru
  have tI := fun (k : Nat) (hk : k < 2147483648) => nI_toInt hk
  by_cases hxy : (0 ≤ x.toInt ∧ x.toInt ≤ ((3 : Nat) : Int)) ∧ (0 ≤ y.toInt ∧ y.toInt ≤ ((3 : Nat) : Int))
  · obtain ⟨i, hi3, rfl⟩ := in_n hxy.1
    obtain ⟨i2, hi23, rfl⟩ := in_n hxy.2
    have hi : i < 4 := by omega
    have hi2 : i2 < 4 := by omega
    by_cases hm : (sh i).1 = -1 ∨ (sh i2).1 = -1
    · exact Spq.of hP hR (Cn.c0 hC (c_copy_b1 k0 cs hsh hi hi2 hm (p := p) (q := q) (z := z))) (by omega) (fun σ1 R1 => Cn.r0 hI R1 (r_copy_b1 R1 iS hsh hi hi2 hm (p := p) (q := q) (z := z))) (by omega)
    · have hm1 : ¬ (sh i).1 = -1 := fun e => hm (Or.inl e)
      have hm2 : ¬ (sh i2).1 = -1 := fun e => hm (Or.inr e)
      by_cases hso : (sh i).1 = (sh i2).1
      · by_cases hb : 0 ≤ z.toInt ∧ 0 ≤ p.toInt ∧ 0 ≤ q.toInt ∧ p.toInt + z.toInt ≤ (((sh i).2.1 : Nat) : Int) ∧ q.toInt + z.toInt ≤ (((sh i2).2.1 : Nat) : Int)
        · have h401 := (hsh i hi).2.1
          have h402 := (hsh i2 hi2).2.1
          obtain ⟨u, hu, rfl⟩ := in_n (x := p) (m := 40) (by omega)
          obtain ⟨v, hv, rfl⟩ := in_n (x := q) (m := 40) (by omega)
          obtain ⟨z, hz9, rfl⟩ := in_n (x := z) (m := 40) (by omega)
          have eu := tI u (by omega)
          have ev := tI v (by omega)
          have ez := tI z (by omega)
          by_cases hii : i = i2
          · subst hii
            exact Spq.of (show PIv rr dn ru n K N W D kp r2 d2 u2 n2 K2 N2 W2 D2 TX tp (up sh i ((sh i).1, (sh i).2.1, zcpy (sh i).2.2 (sh i).2.2 u v z)) from ⟨hrr, hdn, hru, hg, hz, hr2, hd2, hu2, hg2, hz2, hkp, hTX, htp, SHG_up hsh (hsh i (by omega)).1 (hsh i (by omega)).2.1 (by rw [zcpy_len]; exact (hsh i (by omega)).2.2)⟩) hR ((c_copy_s k0 cs hsh hi hm1 (u := u) (v := v) (z := z) (by omega) (by omega)).post (fun r σ1 q => ⟨q.1, hC.cs hru hT6 hi q.2.1 q.2.2⟩)) (by omega) (fun σ1 R1 => (r_copy R1 iS hsh hi hi2 hm1 hm2 (u := u) (v := v) (z := z) (by omega) (by omega) hso).post (fun r σ2 q => by obtain ⟨q1, b', q2, q3, q4⟩ := q; exact ⟨q1, a, tw, b', q2, hI.sh FrR.rf (fun j hj => q3 j (by omega)) q4⟩)) (by omega)
          · exact Spq.of (show PIv rr dn ru n K N W D kp r2 d2 u2 n2 K2 N2 W2 D2 TX tp (up sh i2 ((sh i2).1, (sh i2).2.1, zcpy (sh i).2.2 (sh i2).2.2 u v z)) from ⟨hrr, hdn, hru, hg, hz, hr2, hd2, hu2, hg2, hz2, hkp, hTX, htp, SHG_up hsh (hsh i2 (by omega)).1 (hsh i2 (by omega)).2.1 (by rw [zcpy_len]; exact (hsh i2 (by omega)).2.2)⟩) hR ((c_copy k0 cs hsh hi hi2 hm1 hm2 (u := u) (v := v) (z := z) (by omega) (by omega) hso hii).post (fun r σ1 q => ⟨q.1, hC.cs hru hT6 hi2 q.2.1 q.2.2⟩)) (by omega) (fun σ1 R1 => (r_copy R1 iS hsh hi hi2 hm1 hm2 (u := u) (v := v) (z := z) (by omega) (by omega) hso).post (fun r σ2 q => by obtain ⟨q1, b', q2, q3, q4⟩ := q; exact ⟨q1, a, tw, b', q2, hI.sh FrR.rf (fun j hj => q3 j (by omega)) q4⟩)) (by omega)
        · exact Spq.of hP hR (Cn.c0 hC (c_copy_b3 k0 cs hsh hi hi2 hm1 hm2 hso hb)) (by omega) (fun σ1 R1 => Cn.r0 hI R1 (r_copy_b3 R1 iS hsh hi hi2 hm1 hm2 hso hb)) (by omega)
      · exact Spq.of hP hR (Cn.c0 hC (c_copy_b2 k0 cs hsh hi hi2 hm1 hm2 hso (p := p) (q := q) (z := z))) (by omega) (fun σ1 R1 => Cn.r0 hI R1 (r_copy_b2 R1 iS hsh hi hi2 hm1 hm2 hso (p := p) (q := q) (z := z))) (by omega)
  · exact Spq.of hP hR (Cn.c0 hC (c_copy_b0 k0 (p := p) (q := q) (z := z) (by omega))) (by omega) (fun σ1 R1 => Cn.r0 hI R1 (r_copy_b0 R1 (p := p) (q := q) (z := z) (by omega))) (by omega)
set_option maxHeartbeats 4000000 in
theorem s_guests {σ : ZS} (h : INV σ) (x y w v : Int32) : Spq M_X7_guests M_X8_guests 0 0 [.int x, .int y, .int w, .int v] σ := by
  obtain ⟨rr, dn, ru, n, K, N, W, D, kp, r2, d2, u2, n2, K2, N2, W2, D2, TX, tp, sh, a, tw, b, hC, hP, hR, hI⟩ := h
  obtain ⟨k0, p1, p6, p11, sj, tx, rd, cs, ln⟩ := id hC
  obtain ⟨hrr, hdn, hru, hg, hz, hr2, hd2, hu2, hg2, hz2, hkp, hTX, htp, hsh⟩ := id hP
  obtain ⟨iC, i8, i4, iX, iT, iS, ikt, ikf⟩ := id hI
  obtain ⟨c7, hrr9, c13, hn7, c14, cK, cN, cW, cD, hN7, hW7, hD49, hK5, hN9, hD999⟩ := id iC
  have hT1 := hTX.1
  have hT6 := hTX.2.1
  obtain ⟨S, lf, jf, hp, hM⟩ := tx.ma hru hT6
  have bw := fun (x : Unit) => hI.bw hP hp
  have cR := rIx_c ru
  have tI := fun (k : Nat) (hk : k < 2147483648) => nI_toInt hk
  by_cases hb : (0 ≤ x.toInt ∧ x.toInt ≤ ((3 : Nat) : Int)) ∧ (0 ≤ y.toInt ∧ y.toInt ≤ 2) ∧ (0 ≤ v.toInt ∧ v.toInt ≤ ((7 : Nat) : Int))
  · obtain ⟨hx, hso, hv⟩ := hb
    obtain ⟨i, hi3, rfl⟩ := in_n hx
    have hi : i < 4 := by omega
    have hz40 := (hsh i hi).2.1
    by_cases hm : (sh i).1 = -1
    · exact Spq.of hP hR (Cn.c0 hC (c_guests_b3 (P := (n, K, N, W)) k0 ⟨p1, hz⟩ cs hsh hi hm hso (u := w) hv)) (by omega) (fun σ1 R1 => Cn.r0 hI R1 (r_guests_b3 (P := (n, K, N, W)) R1 ⟨iC, p1.2.2.2.2.2.2.1, hz⟩ iS hi hm hso (u := w) hv)) (by omega)
    · by_cases hs : (sh i).1 = y
      · obtain ⟨m, hm7, rfl⟩ := in_n hv
        by_cases hu : w.toInt < 0
        · exact Spq.of hP hR (Cn.c0 hC (c_guests_neg (P := (n, K, N, W)) k0 ⟨p1, hz⟩ cs hsh hi hm hso hs hu hm7)) (by omega) (fun σ1 R1 => Cn.r0 hI R1 (r_guests_neg (P := (n, K, N, W)) R1 ⟨iC, p1.2.2.2.2.2.2.1, hz⟩ iS hi hm hz40 hso hs hu hm7)) (by omega)
        · obtain ⟨u, hu31, rfl⟩ : ∃ u : Nat, u < 2147483648 ∧ w = nI u := ⟨w.toInt.toNat, by have := w.toInt_lt; omega, ni_of (by omega)⟩
          have hk9 := gsF_keep (row := (sh i).2.2) (sz := (sh i).2.1) (u := u) m 0 0 (n, K, N, W)
          exact Spq.of (show PIv rr dn ru (gsF (sh i).2.2 (sh i).2.1 u m 0 0 (n, K, N, W)).2.1 (gsF (sh i).2.2 (sh i).2.1 u m 0 0 (n, K, N, W)).2.2.1 (gsF (sh i).2.2 (sh i).2.1 u m 0 0 (n, K, N, W)).2.2.2.1 (gsF (sh i).2.2 (sh i).2.1 u m 0 0 (n, K, N, W)).2.2.2.2 D kp r2 d2 u2 n2 K2 N2 W2 D2 TX tp sh from ⟨hrr, hdn, hru, hg, hz.mono hk9.1, hr2, hd2, hu2, hg2, hz2, fun hk => ⟨Nat.le_trans (hkp hk).1 hk9.1, fun i hi => (hk9.2 i (Nat.lt_of_lt_of_le hi (hkp hk).1)).trans ((hkp hk).2 i hi)⟩, hTX, htp, hsh⟩) hR ((c_guests (P := (n, K, N, W)) k0 ⟨p1, hz⟩ cs hsh hi hm hso hs hu31 hm7).post (fun r σ1 q => ⟨q.1, hC.p1 hru hT6 q.2.1.1 q.2.2⟩)) (by omega) (fun σ1 R1 => (r_guests (P := (n, K, N, W)) R1 ⟨iC, p1.2.2.2.2.2.2.1, hz⟩ iS hi hm hz40 hso hs hu31 hm7).post (fun r σ2 q => by obtain ⟨a', b', q1, q2, q3, q4, q5⟩ := q; exact ⟨q1, a', tw, b', q2, hI.pt q3.1 ((q4 8 (by omega)).trans i8) ((q4 4 (by omega)).trans i4) (fun j hj => q4 j (by omega)) (fun j hj => q5 j (by omega) (by omega) (by omega))⟩)) (by omega)
      · exact Spq.of hP hR (Cn.c0 hC (c_guests_b2 (P := (n, K, N, W)) k0 ⟨p1, hz⟩ cs hsh hi hm hso hs (u := w) hv)) (by omega) (fun σ1 R1 => Cn.r0 hI R1 (r_guests_b2 (P := (n, K, N, W)) R1 ⟨iC, p1.2.2.2.2.2.2.1, hz⟩ iS hi hm hso hs (u := w) hv)) (by omega)
  · exact Spq.of hP hR (Cn.c0 hC (c_guests_b1 k0 (u := w) (by omega))) (by omega) (fun σ1 R1 => Cn.r0 hI R1 (r_guests_b1 R1 (u := w) (by omega))) (by omega)
set_option maxHeartbeats 4000000 in
theorem s_taken {σ : ZS} (h : INV σ) (x y : Int32) : Spq M_X7_taken M_X8_taken 0 0 [.int x, .int y] σ := by
  obtain ⟨rr, dn, ru, n, K, N, W, D, kp, r2, d2, u2, n2, K2, N2, W2, D2, TX, tp, sh, a, tw, b, hC, hP, hR, hI⟩ := h
  obtain ⟨k0, p1, p6, p11, sj, tx, rd, cs, ln⟩ := id hC
  obtain ⟨hrr, hdn, hru, hg, hz, hr2, hd2, hu2, hg2, hz2, hkp, hTX, htp, hsh⟩ := id hP
  obtain ⟨iC, i8, i4, iX, iT, iS, ikt, ikf⟩ := id hI
  obtain ⟨c7, hrr9, c13, hn7, c14, cK, cN, cW, cD, hN7, hW7, hD49, hK5, hN9, hD999⟩ := id iC
  have hT1 := hTX.1
  have hT6 := hTX.2.1
  obtain ⟨S, lf, jf, hp, hM⟩ := tx.ma hru hT6
  have bw := fun (x : Unit) => hI.bw hP hp
  have cR := rIx_c ru
  have tI := fun (k : Nat) (hk : k < 2147483648) => nI_toInt hk
  by_cases hy : 0 ≤ y.toInt ∧ y.toInt ≤ ((5 : Nat) : Int)
  · by_cases hx : 0 ≤ x.toInt ∧ x.toInt < (n : Int)
    · obtain ⟨k, hk, rfl⟩ := in_n hy
      obtain ⟨g, hg9, rfl⟩ := in_l hx
      have hk5 := hK5 g
      rcases (show K.getD g 0 = 0 ∨ K.getD g 0 = 1 ∨ K.getD g 0 = 2 ∨ K.getD g 0 = 3 ∨ K.getD g 0 = 4 ∨ K.getD g 0 = 5 by omega) with e | e | e | e | e | e
      · exact Spq.of hP hR (Cn.c0 hC ((by have z := c_taken k0 p1 hg9 hk; rw [e] at z; exact z))) (by omega) (fun σ1 R1 => Cn.r0 hI R1 (r_taken0 R1 iC hg9 hk e)) (by omega)
      · exact Spq.of hP hR (Cn.c0 hC ((by have z := c_taken k0 p1 hg9 hk; rw [e] at z; exact z))) (by omega) (fun σ1 R1 => Cn.r0 hI R1 (r_taken1 R1 iC hg9 hk e)) (by omega)
      · exact Spq.of hP hR (Cn.c0 hC ((by have z := c_taken k0 p1 hg9 hk; rw [e] at z; exact z))) (by omega) (fun σ1 R1 => Cn.r0 hI R1 (r_taken2 R1 iC hg9 hk e)) (by omega)
      · exact Spq.of hP hR (Cn.c0 hC ((by have z := c_taken k0 p1 hg9 hk; rw [e] at z; exact z))) (by omega) (fun σ1 R1 => Cn.r0 hI R1 (r_taken3 R1 iC hg9 hk e)) (by omega)
      · exact Spq.of hP hR (Cn.c0 hC ((by have z := c_taken k0 p1 hg9 hk; rw [e] at z; exact z))) (by omega) (fun σ1 R1 => Cn.r0 hI R1 (r_taken4 R1 iC hg9 hk e)) (by omega)
      · exact Spq.of hP hR (Cn.c0 hC ((by have z := c_taken k0 p1 hg9 hk; rw [e] at z; exact z))) (by omega) (fun σ1 R1 => Cn.r0 hI R1 (r_taken5 R1 iC hg9 hk e)) (by omega)
    · exact Spq.of hP hR (Cn.c0 hC (c_taken_b2 k0 p1 hy hx)) (by omega) (fun σ1 R1 => Cn.r0 hI R1 (r_taken_b2 R1 iC hy hx)) (by omega)
  · exact Spq.of hP hR (Cn.c0 hC (c_taken_b1 k0 p1 (x := x) hy)) (by omega) (fun σ1 R1 => Cn.r0 hI R1 (r_taken_b1 R1 iC (x := x) hy)) (by omega)
