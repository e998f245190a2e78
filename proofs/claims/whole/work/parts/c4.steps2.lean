set_option maxHeartbeats 4000000 in
theorem s_tables {σ : ZS} (h : INV σ) (x : Int32) : Spq M_X7_tables M_X8_tables 0 0 [.int x] σ := by
  obtain ⟨rr, dn, ru, n, K, N, W, D, kp, r2, d2, u2, n2, K2, N2, W2, D2, TX, tp, sh, a, tw, b, hC, hP, hR, hI⟩ := h
  obtain ⟨k0, p1, p6, p11, sj, tx, rd, cs, ln⟩ := id hC
  obtain ⟨hrr, hdn, hru, hg, hz, hr2, hd2, hu2, hg2, hz2, hkp, hTX, htp, hsh⟩ := id hP
  obtain ⟨iC, i8, i4, iX, iT, iS, ikt, ikf⟩ := id hI
  obtain ⟨c7, hrr9, c13, hn7, c14, cK, cN, cW, cD, hN7, hW7, hD49, hK5, hN9, hD999⟩ := id iC
  have hT1 := hTX.1
  have hT6 := hTX.2.1
  obtain ⟨S, lf, jf, hp, hM⟩ := tx.ma hru hT6
  have bw := fun (x : Unit) => hI.bw hP hp
  have cR := rIx_c ru
  have tI := fun (k : Nat) (hk : k < 2147483648) => nI_toInt hk
  by_cases hx : 0 ≤ x.toInt ∧ x.toInt ≤ ((4 : Nat) : Int)
  · obtain ⟨w, hw, rfl⟩ := in_n hx
    rcases (show w = 0 ∨ w = 1 ∨ w = 2 ∨ w = 3 ∨ w = 4 by omega) with rfl | rfl | rfl | rfl | rfl
    · exact Spq.of hP hR ((c_tables0 k0 p1 hrr hM sj p11).post (fun r σ1 q => ⟨q.1, hC.sc hru hT6 q.2.2.2.2.2 (fun i q => by omega) q.2.1 q.2.2.2.2.1 q.2.2.2.1 hp q.2.2.1 (cs.fr q.2.2.2.2.2 (fun i h1 h2 => by omega))⟩)) (by omega) (fun σ1 R1 => Cn.r1 hI ((by have z := r_tables R1 (bw ()) hg (x := nI 0); rw [show (nI 0).toInt = 0 from by decide] at z; exact z))) (by omega)
    · exact Spq.of hP hR ((c_tables1 k0 p1 hrr hM sj p11).post (fun r σ1 q => ⟨q.1, hC.sc hru hT6 q.2.2.2.2.2 (fun i q => by omega) q.2.1 q.2.2.2.2.1 q.2.2.2.1 hp q.2.2.1 (cs.fr q.2.2.2.2.2 (fun i h1 h2 => by omega))⟩)) (by omega) (fun σ1 R1 => Cn.r1 hI ((by have z := r_tables R1 (bw ()) hg (x := nI 1); rw [show (nI 1).toInt = 1 from by decide] at z; exact z))) (by omega)
    · exact Spq.of hP hR ((c_tables2 k0 p1 hrr hM sj p11).post (fun r σ1 q => ⟨q.1, hC.sc hru hT6 q.2.2.2.2.2 (fun i q => by omega) q.2.1 q.2.2.2.2.1 q.2.2.2.1 hp q.2.2.1 (cs.fr q.2.2.2.2.2 (fun i h1 h2 => by omega))⟩)) (by omega) (fun σ1 R1 => Cn.r1 hI ((by have z := r_tables R1 (bw ()) hg (x := nI 2); rw [show (nI 2).toInt = 2 from by decide] at z; exact z))) (by omega)
    · exact Spq.of hP hR ((c_tables3 k0 p1 hrr hM sj p11).post (fun r σ1 q => ⟨q.1, hC.sc hru hT6 q.2.2.2.2.2 (fun i q => by omega) q.2.1 q.2.2.2.2.1 q.2.2.2.1 hp q.2.2.1 (cs.fr q.2.2.2.2.2 (fun i h1 h2 => by omega))⟩)) (by omega) (fun σ1 R1 => Cn.r1 hI ((by have z := r_tables R1 (bw ()) hg (x := nI 3); rw [show (nI 3).toInt = 3 from by decide] at z; exact z))) (by omega)
    · exact Spq.of hP hR ((c_tables4 k0 p1 hrr hM sj p11).post (fun r σ1 q => ⟨q.1, hC.sc hru hT6 q.2.2.2.2.2 (fun i q => by omega) q.2.1 q.2.2.2.2.1 q.2.2.2.1 hp q.2.2.1 (cs.fr q.2.2.2.2.2 (fun i h1 h2 => by omega))⟩)) (by omega) (fun σ1 R1 => Cn.r1 hI ((by have z := r_tables R1 (bw ()) hg (x := nI 4); rw [show (nI 4).toInt = 4 from by decide] at z; exact z))) (by omega)
  · have e : TV (decide (rr = 1)) n n D (vW false S lf jf K N W D n) (vW true S lf jf K N W D n) (lwf (decide (rr = 1)) (2 ^ n - 1) (wlS K N D n (2 ^ n - 1) (-1))) x.toInt = -2 := by
      rw [TV]
      repeat (first | rw [if_neg (by omega)] | rfl)
    exact Spq.of hP hR (Cn.c0 hC (c_tables_b k0 p1 hrr hx)) (by omega) (fun σ1 R1 => Cn.r1 hI ((by have z := r_tables R1 (bw ()) hg (x := x); rw [e] at z; exact z))) (by omega)
set_option maxHeartbeats 4000000 in
theorem s_table {σ : ZS} (h : INV σ) (x w : Int32) : Spq M_X7_table M_X8_table 0 0 [.int x, .int w] σ := by
  obtain ⟨rr, dn, ru, n, K, N, W, D, kp, r2, d2, u2, n2, K2, N2, W2, D2, TX, tp, sh, a, tw, b, hC, hP, hR, hI⟩ := h
  obtain ⟨k0, p1, p6, p11, sj, tx, rd, cs, ln⟩ := id hC
  obtain ⟨hrr, hdn, hru, hg, hz, hr2, hd2, hu2, hg2, hz2, hkp, hTX, htp, hsh⟩ := id hP
  obtain ⟨iC, i8, i4, iX, iT, iS, ikt, ikf⟩ := id hI
  obtain ⟨c7, hrr9, c13, hn7, c14, cK, cN, cW, cD, hN7, hW7, hD49, hK5, hN9, hD999⟩ := id iC
  have hT1 := hTX.1
  have hT6 := hTX.2.1
  obtain ⟨S, lf, jf, hp, hM⟩ := tx.ma hru hT6
  have bw := fun (x : Unit) => hI.bw hP hp
  have cR := rIx_c ru
  have tI := fun (k : Nat) (hk : k < 2147483648) => nI_toInt hk
  by_cases hx : 0 ≤ x.toInt ∧ x.toInt ≤ ((3 : Nat) : Int)
  · obtain ⟨i, hi3, rfl⟩ := in_n hx
    have hi : i < 4 := by omega
    have hz40 := (hsh i hi).2.1
    by_cases hw : 0 ≤ w.toInt ∧ w.toInt ≤ ((2 : Nat) : Int)
    · by_cases hm : (sh i).1 = -1
      · exact Spq.of hP hR (Cn.c0 hC (c_table_m k0 p1 hrr sj cs hsh hi hm hw)) (by omega) (fun σ1 R1 => Cn.r0 hI R1 (r_table_b2 R1 (bw ()) iS hi (Or.inr hm))) (by omega)
      · cases hA : tbS n (sh i).2.2 (sh i).2.1 with
        | none =>
          exact Spq.of hP hR ((c_table_n k0 p1 hrr sj cs hsh hi hm hA hw).post (fun r σ1 q => ⟨q.1, hC.sj0 hru hT6 q.2.2 (fun i q => by omega) q.2.1⟩)) (by omega) (fun σ1 R1 => Cn.r1 hI (r_table_b3 R1 (bw ()) iS hi hm hz40 hA hw)) (by omega)
        | some A =>
          obtain ⟨k, hk, rfl⟩ := in_n (x := w) (m := 2) hw
          rcases (show k = 0 ∨ k = 1 ∨ k = 2 by omega) with rfl | rfl | rfl
          · exact Spq.of hP hR ((c_table0 k0 p1 hrr hM sj cs hsh hi hm hA p11).post (fun r σ1 q => ⟨q.1, hC.sm hru hT6 q.2.2.2.2 (fun i q => by omega) q.2.2.1 q.2.1 hp q.2.2.2.1⟩)) (by omega) (fun σ1 R1 => Cn.r1 hI ((by have z := r_table R1 (bw ()) hg iS hi hm hz40 hA hw; rw [show (nI 0).toInt = 0 from by decide] at z; exact z))) (by omega)
          · exact Spq.of hP hR ((c_table1 k0 p1 hrr hM sj cs hsh hi hm hA p11).post (fun r σ1 q => ⟨q.1, hC.sm hru hT6 q.2.2.2.2 (fun i q => by omega) q.2.2.1 q.2.1 hp q.2.2.2.1⟩)) (by omega) (fun σ1 R1 => Cn.r1 hI ((by have z := r_table R1 (bw ()) hg iS hi hm hz40 hA hw; rw [show (nI 1).toInt = 1 from by decide] at z; exact z))) (by omega)
          · exact Spq.of hP hR ((c_table2 k0 p1 hrr hM sj cs hsh hi hm hA p11).post (fun r σ1 q => ⟨q.1, hC.sm hru hT6 q.2.2.2.2 (fun i q => by omega) q.2.2.1 q.2.1 hp q.2.2.2.1⟩)) (by omega) (fun σ1 R1 => Cn.r1 hI ((by have z := r_table R1 (bw ()) hg iS hi hm hz40 hA hw; rw [show (nI 2).toInt = 2 from by decide] at z; exact z))) (by omega)
    · exact Spq.of hP hR (Cn.c0 hC (c_table_b k0 (x := nI i) (Or.inr hw))) (by omega) (fun σ1 R1 => Cn.r0 hI R1 (r_table_b2 R1 (bw ()) iS hi (Or.inl hw))) (by omega)
  · exact Spq.of hP hR (Cn.c0 hC (c_table_b k0 (w := w) (Or.inl hx))) (by omega) (fun σ1 R1 => Cn.r0 hI R1 (r_table_b1 R1 (bw ()) (w := w) hx)) (by omega)
set_option maxHeartbeats 4000000 in
theorem s_dine {σ : ZS} (h : INV σ) (x : Int32) : Spq M_X7_dine M_X8_dine 0 0 [.int x] σ := by
  obtain ⟨rr, dn, ru, n, K, N, W, D, kp, r2, d2, u2, n2, K2, N2, W2, D2, TX, tp, sh, a, tw, b, hC, hP, hR, hI⟩ := h
  obtain ⟨k0, p1, p6, p11, sj, tx, rd, cs, ln⟩ := id hC
  obtain ⟨hrr, hdn, hru, hg, hz, hr2, hd2, hu2, hg2, hz2, hkp, hTX, htp, hsh⟩ := id hP
  obtain ⟨iC, i8, i4, iX, iT, iS, ikt, ikf⟩ := id hI
  obtain ⟨c7, hrr9, c13, hn7, c14, cK, cN, cW, cD, hN7, hW7, hD49, hK5, hN9, hD999⟩ := id iC
  have hT1 := hTX.1
  have hT6 := hTX.2.1
  obtain ⟨S, lf, jf, hp, hM⟩ := tx.ma hru hT6
  have bw := fun (x : Unit) => hI.bw hP hp
  have cR := rIx_c ru
  have tI := fun (k : Nat) (hk : k < 2147483648) => nI_toInt hk
  by_cases hx : 0 ≤ x.toInt ∧ x.toInt ≤ ((3 : Nat) : Int)
  · obtain ⟨i, hi3, rfl⟩ := in_n hx
    have hi : i < 4 := by omega
    have hz40 := (hsh i hi).2.1
    by_cases hm : (sh i).1 = -1
    · exact Spq.of hP hR (Cn.c0 hC (c_dine_m k0 p1 hrr sj cs hsh hi hm)) (by omega) (fun σ1 R1 => Cn.r0 hI R1 (r_dine_b1 R1 (bw ()) iS hi hm)) (by omega)
    · cases hA : tbS n (sh i).2.2 (sh i).2.1 with
      | none =>
        exact Spq.of hP hR ((c_dine_n k0 p1 hrr sj cs hsh hi hm hA).post (fun r σ1 q => ⟨q.1, hC.sj0 hru hT6 q.2.2 (fun i q => by omega) q.2.1⟩)) (by omega) (fun σ1 R1 => Cn.r1 hI (r_dine_b2 R1 (bw ()) iS hi hm hz40 hA)) (by omega)
      | some A =>
        by_cases hd9 : dn < 999
        · obtain ⟨-, -, -, -, -, -, hDi⟩ := tbS_ok hn7 hA
          have hkp2 := hd_keep (S := S) (lf := lf) (jf := jf) (K := K) (N := N) (W := W) (r := decide (rr = 1)) hn7 ⟨hD49, hD999⟩ hDi hg hz _ (Nat.le_refl _)
          have hD9 := hdD_ok (S := S) (lf := lf) (jf := jf) (K := K) (N := N) (W := W) (t := tOf (sh i).2.2 (sh i).2.1) (m := (sh i).2.1) (show D49 D from ⟨hD49, hD999⟩) (prS (decide (rr = 1)) (sh i).2.1)
          exact Spq.of (show PIv rr (dn + 1) ru n K N W (hdD S lf jf K N W (tOf (sh i).2.2 (sh i).2.1) (sh i).2.1 (prS (decide (rr = 1)) (sh i).2.1) D) kp r2 d2 u2 n2 K2 N2 W2 D2 TX tp sh from ⟨hrr, hd9, hru, hkp2.1, hkp2.2, hr2, hd2, hu2, hg2, hz2, hkp, hTX, htp, hsh⟩) hR ((c_dine k0 p1 hrr hM sj cs hsh hi hm hA hd9).post (fun r σ1 q => ⟨q.1, hC.sc hru hT6 q.2.2.2.2 (fun i q => by omega) q.2.1 (p11.fr q.2.2.2.2 (fun i h1 h2 => by omega)) q.2.2.1 hp q.2.2.2.1 (cs.fr q.2.2.2.2 (fun i h1 h2 => by omega))⟩)) (by omega) (fun σ1 R1 => (r_dine R1 (bw ()) hg iS hi hm hz40 hA i8 hdn hd9).post (fun r σ2 q => by obtain ⟨q1, a', tw', b', q2, q3, q4, q5, q6⟩ := q; exact ⟨q1, a', tw', b', q2, hI.pt ⟨(q3 7 (by omega) (by omega)).trans c7, hrr9, (q3 13 (by omega) (by omega)).trans c13, hn7, (q3 14 (by omega) (by omega)).trans c14, fun i hi => by rw [q5 3 (by omega) (by omega)]; exact cK i hi, (q5 4 (by omega) (by omega)).trans cN, (q5 5 (by omega) (by omega)).trans cW, q6, hN7, hW7, hD9.1, hK5, hN9, hD9.2⟩ q4 ((q3 4 (by omega) (by omega)).trans i4) (fun j hj => q3 j (by omega) (by omega)) (fun j hj => q5 j (by omega) (by omega))⟩)) (by omega)
        · exact Spq.of hP hR ((c_dine_f k0 p1 hrr sj cs hsh hi hm hA (by omega)).post (fun r σ1 q => ⟨q.1, hC.sj0 hru hT6 q.2.2 (fun i q => by omega) q.2.1⟩)) (by omega) (fun σ1 R1 => Cn.r1 hI (r_dine_b3 R1 (bw ()) iS hi hm hz40 hA i8 hdn (by omega))) (by omega)
  · exact Spq.of hP hR (Cn.c0 hC (c_dine_b k0 hx)) (by omega) (fun σ1 R1 => Cn.r0 hI R1 (r_dine_b0 R1 (bw ()) hx)) (by omega)
set_option maxHeartbeats 4000000 in
theorem s_bars {σ : ZS} (h : INV σ) : Spq M_X7_bars M_X8_bars 0 0 [] σ := by
  obtain ⟨rr, dn, ru, n, K, N, W, D, kp, r2, d2, u2, n2, K2, N2, W2, D2, TX, tp, sh, a, tw, b, hC, hP, hR, hI⟩ := h
  obtain ⟨k0, p1, p6, p11, sj, tx, rd, cs, ln⟩ := id hC
  obtain ⟨hrr, hdn, hru, hg, hz, hr2, hd2, hu2, hg2, hz2, hkp, hTX, htp, hsh⟩ := id hP
  obtain ⟨iC, i8, i4, iX, iT, iS, ikt, ikf⟩ := id hI
  obtain ⟨c7, hrr9, c13, hn7, c14, cK, cN, cW, cD, hN7, hW7, hD49, hK5, hN9, hD999⟩ := id iC
  have hT1 := hTX.1
  have hT6 := hTX.2.1
  obtain ⟨S, lf, jf, hp, hM⟩ := tx.ma hru hT6
  have bw := fun (x : Unit) => hI.bw hP hp
  have cR := rIx_c ru
  have tI := fun (k : Nat) (hk : k < 2147483648) => nI_toInt hk
  exact Spq.of hP hR ((c_bars hrr k0 p1 sj).post (fun r σ1 q => ⟨q.1, hC.sj0 hru hT6 q.2.2 (fun i q => by omega) q.2.1⟩)) (by omega) (fun σ1 R1 => Cn.r1 hI (r_bars R1 (bw ()) hg)) (by omega)
set_option maxHeartbeats 4000000 in
theorem s_borrow {σ : ZS} (h : INV σ) (x y : Int32) : Spq M_X7_borrow M_X8_borrow 0 0 [.int x, .int y] σ := by
  obtain ⟨rr, dn, ru, n, K, N, W, D, kp, r2, d2, u2, n2, K2, N2, W2, D2, TX, tp, sh, a, tw, b, hC, hP, hR, hI⟩ := h
  obtain ⟨k0, p1, p6, p11, sj, tx, rd, cs, ln⟩ := id hC
  obtain ⟨hrr, hdn, hru, hg, hz, hr2, hd2, hu2, hg2, hz2, hkp, hTX, htp, hsh⟩ := id hP
  obtain ⟨iC, i8, i4, iX, iT, iS, ikt, ikf⟩ := id hI
  obtain ⟨c7, hrr9, c13, hn7, c14, cK, cN, cW, cD, hN7, hW7, hD49, hK5, hN9, hD999⟩ := id iC
  have hT1 := hTX.1
  have hT6 := hTX.2.1
  obtain ⟨S, lf, jf, hp, hM⟩ := tx.ma hru hT6
  have bw := fun (x : Unit) => hI.bw hP hp
  have cR := rIx_c ru
  have tI := fun (k : Nat) (hk : k < 2147483648) => nI_toInt hk
  by_cases hb : (0 ≤ x.toInt ∧ x.toInt < ((n : Nat) : Int)) ∧ (0 ≤ y.toInt ∧ y.toInt < ((n : Nat) : Int)) ∧ ¬ x.toInt = y.toInt
  · obtain ⟨h1, h2, h3⟩ := hb
    obtain ⟨x, hx, rfl⟩ := in_l h1
    obtain ⟨y, hy, rfl⟩ := in_l h2
    have ex := tI x (by omega)
    have ey := tI y (by omega)
    exact Spq.of hP hR (Cn.c0 hC (c_borrow k0 p1 hx hy (by omega))) (by omega) (fun σ1 R1 => (r_borrow R1 iC hg hx hy (by omega)).post (fun r σ2 q => by obtain ⟨b', q1, q2, q3⟩ := q; exact ⟨q1, a, tw, b', q2, hI.fr FrR.rf (fun j _ _ _ => q3 j)⟩)) (by omega)
  · exact Spq.of hP hR (Cn.c0 hC (c_borrow_b k0 p1 hb)) (by omega) (fun σ1 R1 => Cn.r0 hI R1 (r_borrow_bad R1 iC hb)) (by omega)
set_option maxHeartbeats 4000000 in
theorem s_company {σ : ZS} (h : INV σ) (x : Int32) : Spq M_X7_company M_X8_company 0 0 [.int x] σ := by
  obtain ⟨rr, dn, ru, n, K, N, W, D, kp, r2, d2, u2, n2, K2, N2, W2, D2, TX, tp, sh, a, tw, b, hC, hP, hR, hI⟩ := h
  obtain ⟨k0, p1, p6, p11, sj, tx, rd, cs, ln⟩ := id hC
  obtain ⟨hrr, hdn, hru, hg, hz, hr2, hd2, hu2, hg2, hz2, hkp, hTX, htp, hsh⟩ := id hP
  obtain ⟨iC, i8, i4, iX, iT, iS, ikt, ikf⟩ := id hI
  obtain ⟨c7, hrr9, c13, hn7, c14, cK, cN, cW, cD, hN7, hW7, hD49, hK5, hN9, hD999⟩ := id iC
  have hT1 := hTX.1
  have hT6 := hTX.2.1
  obtain ⟨S, lf, jf, hp, hM⟩ := tx.ma hru hT6
  have bw := fun (x : Unit) => hI.bw hP hp
  have cR := rIx_c ru
  have tI := fun (k : Nat) (hk : k < 2147483648) => nI_toInt hk
  by_cases hx : 0 ≤ x.toInt ∧ x.toInt ≤ ((1 : Nat) : Int)
  · obtain ⟨w, hw, rfl⟩ := in_n hx
    rcases (show w = 0 ∨ w = 1 by omega) with rfl | rfl
    · have e : (if 0 ≤ (nI 0).toInt ∧ (nI 0).toInt ≤ 1 then (if (nI 0).toInt = 0 then nI (cmpR (anB (decide (rr = 1)) n K N D) (2 ^ n - 1) 1 0) else nI (popc (cmpR (anB (decide (rr = 1)) n K N D) (2 ^ n - 1) 1 0))) else -2) = nI (cmpR (anB (decide (rr = 1)) n K N D) (2 ^ n - 1) 1 0) := by rw [if_pos (by decide), if_pos (by decide)]
      exact Spq.of hP hR ((c_company0 hrr k0 p1 sj).post (fun r σ1 q => ⟨q.1, hC.sj0 hru hT6 q.2.2 (fun i q => by omega) q.2.1⟩)) (by omega) (fun σ1 R1 => Cn.r1 hI ((by have z := r_company R1 (bw ()) hg (x := nI 0); rw [e] at z; exact z))) (by omega)
    · have e : (if 0 ≤ (nI 1).toInt ∧ (nI 1).toInt ≤ 1 then (if (nI 1).toInt = 0 then nI (cmpR (anB (decide (rr = 1)) n K N D) (2 ^ n - 1) 1 0) else nI (popc (cmpR (anB (decide (rr = 1)) n K N D) (2 ^ n - 1) 1 0))) else -2) = nI (popc (cmpR (anB (decide (rr = 1)) n K N D) (2 ^ n - 1) 1 0)) := by rw [if_pos (by decide), if_neg (by decide)]
      exact Spq.of hP hR ((c_company1 hrr k0 p1 sj).post (fun r σ1 q => ⟨q.1, hC.sj0 hru hT6 q.2.2 (fun i q => by omega) q.2.1⟩)) (by omega) (fun σ1 R1 => Cn.r1 hI ((by have z := r_company R1 (bw ()) hg (x := nI 1); rw [e] at z; exact z))) (by omega)
  · have e : (if 0 ≤ x.toInt ∧ x.toInt ≤ 1 then (if x.toInt = 0 then nI (cmpR (anB (decide (rr = 1)) n K N D) (2 ^ n - 1) 1 0) else nI (popc (cmpR (anB (decide (rr = 1)) n K N D) (2 ^ n - 1) 1 0))) else -2) = -2 := if_neg hx
    exact Spq.of hP hR (Cn.c0 hC (c_company_b k0 hx)) (by omega) (fun σ1 R1 => Cn.r1 hI ((by have z := r_company R1 (bw ()) hg (x := x); rw [e] at z; exact z))) (by omega)
set_option maxHeartbeats 4000000 in
theorem s_run {σ : ZS} (h : INV σ) (x w : Int32) : Spq M_X7_run M_X8_run 0 0 [.int x, .int w] σ := by
  obtain ⟨rr, dn, ru, n, K, N, W, D, kp, r2, d2, u2, n2, K2, N2, W2, D2, TX, tp, sh, a, tw, b, hC, hP, hR, hI⟩ := h
  obtain ⟨k0, p1, p6, p11, sj, tx, rd, cs, ln⟩ := id hC
  obtain ⟨hrr, hdn, hru, hg, hz, hr2, hd2, hu2, hg2, hz2, hkp, hTX, htp, hsh⟩ := id hP
  obtain ⟨iC, i8, i4, iX, iT, iS, ikt, ikf⟩ := id hI
  obtain ⟨c7, hrr9, c13, hn7, c14, cK, cN, cW, cD, hN7, hW7, hD49, hK5, hN9, hD999⟩ := id iC
  have hT1 := hTX.1
  have hT6 := hTX.2.1
  obtain ⟨S, lf, jf, hp, hM⟩ := tx.ma hru hT6
  have bw := fun (x : Unit) => hI.bw hP hp
  have cR := rIx_c ru
  have tI := fun (k : Nat) (hk : k < 2147483648) => nI_toInt hk
  by_cases hb : (0 ≤ x.toInt ∧ x.toInt ≤ ((20 : Nat) : Int)) ∧ (0 ≤ w.toInt ∧ w.toInt ≤ ((2 : Nat) : Int))
  · obtain ⟨k, hk, rfl⟩ := in_n hb.1
    obtain ⟨w, hw, rfl⟩ := in_n hb.2
    rcases (show w = 0 ∨ w = 1 ∨ w = 2 by omega) with rfl | rfl | rfl
    · have e : (if (nI 0).toInt = 0 then nI (runS rr n K N W S lf jf k D).1 else if (nI 0).toInt = 1 then nI (allS (runS rr n K N W S lf jf k D).2 n n) else nI (ruinS (runS rr n K N W S lf jf k D).2 n n)) = nI (0 + (runS rr n K N W S lf jf k D).1) := by rw [if_pos (by decide), Nat.zero_add]
      exact Spq.of hP hR ((c_run0 k0 p1 hrr hM sj p11 hk).post (fun r σ1 q => ⟨q.1, hC.sm hru hT6 q.2.2.2.2 (fun i q => by omega) q.2.2.1 q.2.1 hp q.2.2.2.1⟩)) (by omega) (fun σ1 R1 => Cn.r2 hI ((by have z := r_run R1 (bw ()) hg hz hk (w := nI 0) (by decide); rw [e] at z; exact z))) (by omega)
    · have e : (if (nI 1).toInt = 0 then nI (runS rr n K N W S lf jf k D).1 else if (nI 1).toInt = 1 then nI (allS (runS rr n K N W S lf jf k D).2 n n) else nI (ruinS (runS rr n K N W S lf jf k D).2 n n)) = nI (allS (runS rr n K N W S lf jf k D).2 n n) := by rw [if_neg (by decide), if_pos (by decide)]
      exact Spq.of hP hR ((c_run1 k0 p1 hrr hM sj p11 hk).post (fun r σ1 q => ⟨q.1, hC.sm hru hT6 q.2.2.2.2 (fun i q => by omega) q.2.2.1 q.2.1 hp q.2.2.2.1⟩)) (by omega) (fun σ1 R1 => Cn.r2 hI ((by have z := r_run R1 (bw ()) hg hz hk (w := nI 1) (by decide); rw [e] at z; exact z))) (by omega)
    · have e : (if (nI 2).toInt = 0 then nI (runS rr n K N W S lf jf k D).1 else if (nI 2).toInt = 1 then nI (allS (runS rr n K N W S lf jf k D).2 n n) else nI (ruinS (runS rr n K N W S lf jf k D).2 n n)) = nI (ruinS (runS rr n K N W S lf jf k D).2 n n) := by rw [if_neg (by decide), if_neg (by decide)]
      exact Spq.of hP hR ((c_run2 k0 p1 hrr hM sj p11 hk).post (fun r σ1 q => ⟨q.1, hC.sm hru hT6 q.2.2.2.2 (fun i q => by omega) q.2.2.1 q.2.1 hp q.2.2.2.1⟩)) (by omega) (fun σ1 R1 => Cn.r2 hI ((by have z := r_run R1 (bw ()) hg hz hk (w := nI 2) (by decide); rw [e] at z; exact z))) (by omega)
  · exact Spq.of hP hR (Cn.c0 hC (c_run_b k0 (by omega))) (by omega) (fun σ1 R1 => Cn.r0 hI R1 (r_run_b R1 (bw ()) (by omega))) (by omega)
set_option maxHeartbeats 4000000 in
theorem s_tells {σ : ZS} (h : INV σ) (x y w : Int32) : Spq M_X7_tells M_X8_tells 0 0 [.int x, .int y, .int w] σ := by
  obtain ⟨rr, dn, ru, n, K, N, W, D, kp, r2, d2, u2, n2, K2, N2, W2, D2, TX, tp, sh, a, tw, b, hC, hP, hR, hI⟩ := h
  obtain ⟨k0, p1, p6, p11, sj, tx, rd, cs, ln⟩ := id hC
  obtain ⟨hrr, hdn, hru, hg, hz, hr2, hd2, hu2, hg2, hz2, hkp, hTX, htp, hsh⟩ := id hP
  obtain ⟨iC, i8, i4, iX, iT, iS, ikt, ikf⟩ := id hI
  obtain ⟨c7, hrr9, c13, hn7, c14, cK, cN, cW, cD, hN7, hW7, hD49, hK5, hN9, hD999⟩ := id iC
  have hT1 := hTX.1
  have hT6 := hTX.2.1
  obtain ⟨S, lf, jf, hp, hM⟩ := tx.ma hru hT6
  have bw := fun (x : Unit) => hI.bw hP hp
  have cR := rIx_c ru
  have tI := fun (k : Nat) (hk : k < 2147483648) => nI_toInt hk
  by_cases hb : (0 ≤ x.toInt ∧ x.toInt ≤ ((3 : Nat) : Int)) ∧ (0 ≤ y.toInt ∧ y.toInt < ((n : Nat) : Int)) ∧ ((0 ≤ w.toInt ∧ w.toInt ≤ 2) ∨ ((10 ≤ w.toInt ∧ w.toInt ≤ 29) ∧ (0 ≤ y.toInt ∧ y.toInt < (n : Int)) ∧ (0 ≤ (w - w / nI 10 * nI 10).toInt ∧ (w - w / nI 10 * nI 10).toInt < (n : Int)) ∧ ¬ y.toInt = (w - w / nI 10 * nI 10).toInt))
  · obtain ⟨hx, hy, hw⟩ := hb
    obtain ⟨i, hi3, rfl⟩ := in_n hx
    obtain ⟨o, ho, rfl⟩ := in_l hy
    have hi : i < 4 := by omega
    have hz40 := (hsh i hi).2.1
    rw [tI o (by omega)] at hw
    by_cases hm : (sh i).1 = -1
    · exact Spq.of hP hR (Cn.c0 hC (c_tells_m k0 p1 hrr sj cs hsh hi ho hw hm)) (by omega) (fun σ1 R1 => Cn.r0 hI R1 (r_tells_b2 R1 (bw ()) iS hi ho hw hm)) (by omega)
    · cases hA : tbS n (sh i).2.2 (sh i).2.1 with
      | none =>
        exact Spq.of hP hR ((c_tells_n k0 p1 hrr sj cs hsh hi hm hA ho hw).post (fun r σ1 q => ⟨q.1, hC.sj0 hru hT6 q.2.2 (fun i q => by omega) q.2.1⟩)) (by omega) (fun σ1 R1 => Cn.r1 hI (r_tells_b4 R1 (bw ()) iS hi hm hz40 hA ho hw)) (by omega)
      | some A =>
        by_cases hs : (sh i).2.1 = n
        · by_cases hw2 : 0 ≤ w.toInt ∧ w.toInt ≤ ((2 : Nat) : Int)
          · obtain ⟨k, hk, rfl⟩ := in_n hw2
            rcases (show k = 0 ∨ k = 1 ∨ k = 2 by omega) with rfl | rfl | rfl
            · exact Spq.of hP hR ((c_tells0 k0 p1 hrr sj cs hsh hi hm hA hs ho).post (fun r σ1 q => ⟨q.1, hC.sj0 hru hT6 q.2.2 (fun i q => by omega) q.2.1⟩)) (by omega) (fun σ1 R1 => Cn.r1 hI (r_tells0 R1 (bw ()) hg iS hi hm hz40 hA hs ho)) (by omega)
            · exact Spq.of hP hR ((c_tells1 k0 p1 hrr sj cs hsh hi hm hA hs ho p11).post (fun r σ1 q => ⟨q.1, hC.sj hru hT6 q.2.2.2 (fun i q => by omega) q.2.2.1 q.2.1⟩)) (by omega) (fun σ1 R1 => Cn.r1 hI (r_tells1 R1 (bw ()) hg iS hi hm hz40 hA hs i8 p1.2.2.2.2.2.2.1 ho)) (by omega)
            · exact Spq.of hP hR ((c_tells2 k0 p1 hrr sj cs hsh hi hm hA hs ho p11).post (fun r σ1 q => ⟨q.1, hC.sj hru hT6 q.2.2.2 (fun i q => by omega) q.2.2.1 q.2.1⟩)) (by omega) (fun σ1 R1 => Cn.r1 hI (r_tells2 R1 (bw ()) hg iS hi hm hz40 hA hs i8 p1.2.2.2.2.2.2.1 ho)) (by omega)
          · have hwN := hw.resolve_left hw2
            obtain ⟨⟨h10, h29⟩, -, hr1, hr2⟩ := hwN
            obtain ⟨k, hk, rfl⟩ := in_n (x := w) (m := 29) (by omega)
            have ek := tI k (by omega)
            have e10 : nI k - nI k / nI 10 * nI 10 = nI (k % 10) := pk_rem (by omega) (by omega) (by omega)
            rw [e10, tI (k % 10) (by omega)] at hr1 hr2
            exact Spq.of hP hR ((c_tellsN k0 p1 hrr sj cs hsh hi hm hA hs ho (w := k) (by omega) (by omega) (by omega) p11).post (fun r σ1 q => ⟨q.1, hC.sj hru hT6 q.2.2.2 (fun i q => by omega) q.2.2.1 q.2.1⟩)) (by omega) (fun σ1 R1 => Cn.r1 hI (r_tellsN R1 (bw ()) hg iS hi hm hz40 hA hs ho (w := k) (by omega) (by omega) (by omega))) (by omega)
        · exact Spq.of hP hR ((c_tells_s k0 p1 hrr sj cs hsh hi hm hA hs ho hw).post (fun r σ1 q => ⟨q.1, hC.sj0 hru hT6 q.2.2 (fun i q => by omega) q.2.1⟩)) (by omega) (fun σ1 R1 => Cn.r0 hI R1 (r_tells_b3 R1 (bw ()) iS hi hm hz40 ho hw hs)) (by omega)
  · exact Spq.of hP hR (Cn.c0 hC (c_tells_b k0 p1 (by omega))) (by omega) (fun σ1 R1 => Cn.r0 hI R1 (r_tells_b1 R1 (bw ()) (by omega))) (by omega)
