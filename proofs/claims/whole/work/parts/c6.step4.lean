theorem text_ci {rr dn ru n : Nat} {K N : List Nat} {W : List Int32} {D : List Nat} {kp : Bool} {r2 d2 u2 n2 : Nat} {K2 N2 : List Nat} {W2 : List Int32} {D2 : List Nat} {TX : List (List Nat)} {tp : List Nat} {sh : Nat → SH} {σ σ1 : ZS} (hC : CIv σ rr dn ru n K N W D kp r2 d2 u2 n2 K2 N2 W2 D2 TX tp sh) (hru : ru < TX.length) (hlt : TX.length < 6) (htp : TPG tp) {S : List Nat} {lf jf : Nat} (hq : pText tp = .inr (S, lf, jf)) {rl : List (Option Nat)} (t2 : zg σ 17 = some (.inr (.inl (2, rl)))) (t3 : rl.length = 6) (t4 : ∀ i, i < TX.length → rl[i]? = some (some (rIx i))) {Tp : List Int32} (q : zg σ1 0 = some (.inr (.inr (6, [.ref 1, .ref 6, .ref 11, .ref 16, .ref 22, .ref 28, .ref 31, .int (nI (TX.length + 1)), .int (bI kp)]))) ∧ (∃ (ap tk tp tv fa sc lf0 jf0 : Int32) (St : List Int32), Rd σ1 (nI 0) ap tk tp tv fa sc lf0 jf0 Tp St) ∧ zg σ1 17 = some (.inr (.inl (2, rl.set TX.length (some (2000 + (3 * (TX.length - 1))))))) ∧ zg σ1 (2000 + (3 * (TX.length - 1))) = some (.inr (.inr (3, [.ref (2000 + ((3 * (TX.length - 1)) + 1)), .int (nI lf), .int (nI jf), .ref (2000 + ((3 * (TX.length - 1)) + 1 + 1))]))) ∧ zg σ1 (2000 + ((3 * (TX.length - 1)) + 1)) = some (.inl (0, S.map nI)) ∧ zg σ1 (2000 + ((3 * (TX.length - 1)) + 1 + 1)) = some (.inl (0, List.replicate S.length 0)) ∧ Ln σ1 40 18 ((3 * (TX.length - 1)) + 1 + 1 + 1) ∧ Fr (fun i => i = 0 ∨ i = 17 ∨ (28 ≤ i ∧ i ≤ 30) ∨ (2000 + (3 * (TX.length - 1)) ≤ i ∧ i ≤ 2000 + ((3 * (TX.length - 1)) + 1 + 1))) σ σ1) : CIv σ1 rr dn ru n K N W D kp r2 d2 u2 n2 K2 N2 W2 D2 (TX ++ [tp]) [] sh ∧ FC σ σ1 := by
  obtain ⟨k0, p1, p6, p11, sj, tx, rd, cs, ln⟩ := hC
  obtain ⟨q0, ⟨ap2, tk2, tq2, tv2, fa2, sc2, lf2, jf2, St2, qr⟩, q17, qa, qb, qc, qL, hF⟩ := q
  obtain ⟨t1, -, ⟨F6, t5, t5b⟩, t6⟩ := tx
  obtain ⟨o1, o2, o3, o4⟩ := pText_ok hq htp.1
  have hl1 : (TX ++ [tp]).length = TX.length + 1 := by simp
  have eR : rIx TX.length = 2000 + (3 * (TX.length - 1)) := by have := rIx_c TX.length; omega
  refine ⟨⟨by rw [hl1]; exact q0, p1.fr hF (fun i h1 h2 => by omega), p6.fr hF (fun i h1 h2 => by omega), p11.fr hF (fun i h1 h2 => by omega), sj.fr hF (fun i hi => by omega), ⟨hF.at (by omega) t1, ⟨_, q17, by rw [List.length_set]; exact t3, fun i hi => ?_⟩, ⟨F6, hF.at (by omega) t5, t5b⟩, fun i hi => ?_⟩, ⟨ap2, tk2, tq2, tv2, fa2, sc2, lf2, jf2, Tp, St2, ⟨Nat.zero_le _, fun i hi => absurd hi (Nat.not_lt_zero i), fun i => Nat.zero_le _⟩, qr⟩, cs.fr hF (fun i h1 h2 => by omega), ?_⟩, hF.fc (fun i hi => by omega)⟩
  · by_cases e : i = TX.length
    · rw [e, List.getElem?_set_self (by omega), eR]
    · rw [List.getElem?_set_ne (fun z => e z.symm)]; exact t4 i (by omega)
  · by_cases e : i < TX.length
    · rw [snl_getD e]
      obtain ⟨S2, lf3, jf3, g1, g2, Ks, g3, g4⟩ := t6 i e
      have ci := rIx_c i
      exact ⟨S2, lf3, jf3, g1, g2.frx hF (by omega) (by omega), Ks, hF.at (by omega) g3, g4⟩
    · obtain rfl : i = TX.length := by omega
      rw [snl_last, eR]
      exact ⟨S, lf, jf, hq, ⟨qa, qb, by omega, o1, o2, o4, by omega, by omega⟩, _, qc, by simp⟩
  · have e2 : (3 * (TX.length - 1)) + 1 + 1 + 1 = 3 * ((TX ++ [tp]).length - 1) := by omega
    rw [← e2]
    exact qL
set_option maxHeartbeats 4000000 in
theorem s_text {σ : ZS} (h : INV σ) : Spq M_X7_text M_X8_text 3 364 [] σ := by
  obtain ⟨rr, dn, ru, n, K, N, W, D, kp, r2, d2, u2, n2, K2, N2, W2, D2, TX, tp, sh, a, tw, b, hC, hP, hR, hI⟩ := h
  obtain ⟨k0, p1, p6, p11, sj, tx, rd, cs, ln⟩ := id hC
  obtain ⟨hrr, hdn, hru, hg, hz, hr2, hd2, hu2, hg2, hz2, hkp, hTX, htp, hsh⟩ := id hP
  obtain ⟨iC, i8, i4, iX, iT, iS, ikt, ikf⟩ := id hI
  obtain ⟨c7, hrr9, c13, hn7, c14, cK, cN, cW, cD, hN7, hW7, hD49, hK5, hN9, hD999⟩ := id iC
  have hT1 := hTX.1
  have hT6 := hTX.2.1
  obtain ⟨S, lf, jf, hp, hM⟩ := tx.ma hru hT6
  have bw := fun (x : Unit) => hI.bw hP hp
  have cR := rIx_c ru
  have tI := fun (k : Nat) (hk : k < 2147483648) => nI_toInt hk
  obtain ⟨ap, tk, tq, tv, fa, sc, lf9, jf9, Tp, St, hTp, hRd⟩ := id rd
  by_cases h6 : TX.length = 6
  · exact Spq.of hP hR (Cn.c0 hC (c_text_f k0 h6)) (by omega) (fun σ1 R1 => Cn.r0 hI R1 (r_text_f R1 iX hTX iT htp h6)) (by omega)
  · have hlt : TX.length < 6 := by omega
    cases hq : pText tp with
    | inl f =>
      exact Spq.of (show PIv rr dn ru n K N W D kp r2 d2 u2 n2 K2 N2 W2 D2 TX [] sh from ⟨hrr, hdn, hru, hg, hz, hr2, hd2, hu2, hg2, hz2, hkp, hTX, ⟨Nat.zero_le _, fun j => Nat.zero_le _⟩, hsh⟩) hR ((c_text_bad (c := 0) k0 hTp hRd hlt hq).post (fun r σ1 q => by obtain ⟨q1, ⟨ap2, tk2, tq2, tv2, fa2, sc2, lf2, jf2, St2, q2⟩, q3⟩ := q; exact ⟨q1, hC.rd hru hT6 (tp' := []) ⟨ap2, tk2, tq2, tv2, fa2, sc2, lf2, jf2, Tp, St2, ⟨Nat.zero_le _, fun i hi => absurd hi (Nat.not_lt_zero i), fun i => Nat.zero_le _⟩, q2⟩ q3 (fun i hi => hi)⟩)) (by omega) (fun σ1 R1 => (r_text_bad R1 iX hTX iT htp hlt hq).post (fun r σ2 q => by obtain ⟨a', tw', b', q1, q2, q3, q4, q5, q6, q7⟩ := q; exact ⟨q2, a', tw', b', q1, hI.tx (tp' := []) q3 q5 q7 ⟨q4, fun j hj => absurd hj (Nat.not_lt_zero j)⟩⟩)) (by omega)
    | inr q0 =>
      obtain ⟨S9, l9, j9⟩ := q0
      obtain ⟨t1, ⟨rl, t2, t3, t4⟩, t5, t6⟩ := id tx
      obtain ⟨o1, o2, o3, o4⟩ := pText_ok hq htp.1
      have hl1 : (TX ++ [tp]).length = TX.length + 1 := by simp
      have hTX' : TXG (TX ++ [tp]) := by
        refine ⟨by omega, by omega, fun i hi => ?_⟩
        by_cases e : i < TX.length
        · rw [snl_getD e]; exact hTX.2.2 i e
        · obtain rfl : i = TX.length := by omega
          rw [snl_last]; exact ⟨htp.1, htp.2, S9, l9, j9, hq⟩
      exact Spq.of (show PIv rr dn ru n K N W D kp r2 d2 u2 n2 K2 N2 W2 D2 (TX ++ [tp]) [] sh from ⟨hrr, hdn, by omega, hg, hz, hr2, hd2, by omega, hg2, hz2, hkp, hTX', ⟨Nat.zero_le _, fun j => Nat.zero_le _⟩, hsh⟩) hR ((c_text_ok k0 hTp hRd hlt hq ln (by omega) t1 t2 t3).post (fun r σ1 q => by exact ⟨q.1, text_ci hC hru hlt htp hq t2 t3 t4 q.2⟩)) (by omega) (fun σ1 R1 => (r_text_ok R1 iX hTX iT htp hlt hq).post (fun r σ2 q => by obtain ⟨a', tw', b', q1, q2, q3, q4, q5, q6, q7⟩ := q; exact ⟨q2, a', tw', b', q1, hI.tx (tp' := []) q3 q5 q7 ⟨q4, fun j hj => absurd hj (Nat.not_lt_zero j)⟩⟩)) (by omega)
