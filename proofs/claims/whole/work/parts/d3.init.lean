/-! how both begin -/
theorem rzN {n k : Nat} : (List.replicate n (0 : Nat)).getD k 0 = 0 := by
  rw [List.getD_eq_getElem?_getD, List.getElem?_replicate]
  split <;> rfl
theorem rzI {n k : Nat} : (List.replicate n (0 : Int32)).getD k 0 = 0 := by
  rw [List.getD_eq_getElem?_getD, List.getElem?_replicate]
  split <;> rfl
theorem rzT : T7 (List.replicate 7 0) := ⟨by simp, fun i => by rw [rzN]; omega⟩
theorem rzM {n : Nat} : (List.replicate n (0 : Nat)).map nI = List.replicate n 0 := by
  rw [List.map_replicate]
  rfl
theorem L0_ok : ∀ j, L0S.getD j 0 ≤ 255 := by
  intro j
  by_cases h : j < 32
  · exact (show ∀ j, j < 32 → L0S.getD j 0 ≤ 255 by decide +kernel) j h
  · rw [List.getD_eq_getElem?_getD, List.getElem?_eq_none (show L0S.length ≤ j from by rw [show L0S.length = 32 from rfl]; omega)]
    exact Nat.zero_le _
theorem st521 : ∀ i, i < 3 → okSt ([5, 2, 1].getD i 0) := by
  intro i hi
  rcases (show i = 0 ∨ i = 1 ∨ i = 2 by omega) with rfl | rfl | rfl
  · exact Or.inl (by decide)
  · exact Or.inl (by decide)
  · exact Or.inl (by decide)
theorem INV_made {σ2 σ3 σ4 : ZS} {T : List Int32} (q0 : zg σ2 0 = some (.inr (.inr (6, [.ref 1, .ref 6, .ref 11, .ref 16, .ref 22, .ref 28, .ref 31, .int (nI 1), .int (nI 0)])))) (p1 : Pa σ2 1 (nI 1) (nI 0) (nI 0) 0 (List.replicate 7 0) (List.replicate 7 0) (List.replicate 7 0) (List.replicate 49 0)) (p6 : Pa σ2 6 (nI 1) (nI 0) (nI 0) 0 (List.replicate 7 0) (List.replicate 7 0) (List.replicate 7 0) (List.replicate 49 0)) (p11 : Pa σ2 11 (nI 1) (nI 0) (nI 0) 0 (List.replicate 7 0) (List.replicate 7 0) (List.replicate 7 0) (List.replicate 49 0)) (ma : zg σ2 16 = some (.inr (.inr (0, [.ref 17, .ref 18]))) ∧ zg σ2 17 = some (.inr (.inl (2, List.replicate 6 (some 19)))) ∧ zg σ2 18 = some (.inl (0, List.replicate 6 0)) ∧ zg σ2 19 = some (.inr (.inr (3, [.ref 20, .int (nI 1), .int (nI 2), .ref 21]))) ∧ zg σ2 20 = some (.inl (0, [5, 2, 1].map nI)) ∧ zg σ2 21 = some (.inl (0, List.replicate 3 0))) (se : Se σ2 0 0 0 0 0 0 0 (List.replicate 7 0) (List.replicate 7 0) (List.replicate 7 0) (List.replicate 343 0) (List.replicate 9 0)) (rd : Rd σ2 (nI 0) 0 0 0 0 0 0 0 0 (List.replicate 160 0) (List.replicate 160 0)) (cs : CSH σ2 (fun _ => (-1, 0, List.replicate 40 0))) (h3 : Fr (fun i => i = 1000) σ2 σ3) (hR : RM σ3 σ4 aI 0 (bI0 T)) (hL : Ln σ4 40 18 0) (hT : txAll T) : INV σ4 := by
  have F : Fr (fun i => 1000 ≤ i ∧ i ≤ 1017) σ2 σ4 := (h3.mono (fun i hi => by omega)).tr hR.1
  obtain ⟨m1, m2, m3, m4, m5, m6⟩ := ma
  have hz : Dz 0 (List.replicate 49 0) := fun i j hi hj hij => rzN
  have hg : Dg (List.replicate 49 0) := fun i hi => rzN
  have sj : SeJ σ4 := by
    refine ⟨0, 0, 0, 0, 0, 0, 0, (List.replicate 7 0), (List.replicate 7 0), List.replicate 7 0, List.replicate 343 0, List.replicate 9 0, ?_, rzT, rzT⟩
    rw [rzM]
    exact se.fr F (fun i hi => by omega)
  have tx : TxC σ4 [L0S] := by
    refine ⟨F.at (by omega) m1, ⟨_, F.at (by omega) m2, by simp, fun i hi => ?_⟩, ⟨_, F.at (by omega) m3, by simp⟩, fun i hi => ?_⟩
    · obtain rfl : i = 0 := by have : i < 1 := hi; omega
      rfl
    · obtain rfl : i = 0 := by have : i < 1 := hi; omega
      exact ⟨[5, 2, 1], 1, 2, L0_text, ⟨F.at (by show ¬ (1000 ≤ 19 ∧ _); omega) m4, F.at (by show ¬ (1000 ≤ 20 ∧ _); omega) m5, by decide, by decide, by decide, st521, by decide, by decide⟩, _, F.at (by show ¬ (1000 ≤ 21 ∧ _); omega) m6, by simp⟩
  have hC : CIv σ4 1 0 0 0 (List.replicate 7 0) (List.replicate 7 0) (List.replicate 7 0) (List.replicate 49 0) false 1 0 0 0 (List.replicate 7 0) (List.replicate 7 0) (List.replicate 7 0) (List.replicate 49 0) [L0S] [] (fun _ => (-1, 0, List.replicate 40 0)) := ⟨by rw [bI_f]; exact F.at (by omega) q0, p1.fr F (fun i h1 h2 => by omega), p6.fr F (fun i h1 h2 => by omega), ⟨_, _, _, _, _, _, _, _, p11.fr F (fun i h1 h2 => by omega)⟩, sj, tx, ⟨0, 0, 0, 0, 0, 0, 0, 0, _, _, ⟨Nat.zero_le _, fun i hi => absurd hi (Nat.not_lt_zero i), fun i => Nat.zero_le _⟩, rd.fr F (fun i hi => by omega)⟩, cs.fr F (fun i h1 h2 => by omega), hL⟩
  have hX : TXG [L0S] := by
    refine ⟨Nat.le_refl _, by decide, fun i hi => ?_⟩
    obtain rfl : i = 0 := by have : i < 1 := hi; omega
    exact ⟨by decide, L0_ok, _, _, _, L0_text⟩
  have hS : SHG (fun _ => (-1, 0, List.replicate 40 0)) := fun i hi => ⟨Or.inl rfl, Nat.zero_le _, by simp⟩
  have hP : PIv 1 0 0 0 (List.replicate 7 0) (List.replicate 7 0) (List.replicate 7 0) (List.replicate 49 0) false 1 0 0 0 (List.replicate 7 0) (List.replicate 7 0) (List.replicate 7 0) (List.replicate 49 0) [L0S] [] (fun _ => (-1, 0, List.replicate 40 0)) := ⟨by omega, by omega, by decide, hg, hz, by omega, by omega, by decide, hg, hz, fun h => Bool.noConfusion h, hX, ⟨Nat.zero_le _, fun j => Nat.zero_le _⟩, hS⟩
  obtain ⟨-, -, -, -, -, g1, g2, g3, g4, g5, g6, g7, g8⟩ := p1
  have hI : RIv aI (bI0 T) 1 0 0 0 (List.replicate 7 0) (List.replicate 7 0) (List.replicate 7 0) (List.replicate 49 0) false 1 0 0 0 (List.replicate 7 0) (List.replicate 7 0) (List.replicate 7 0) (List.replicate 49 0) [L0S] [] (fun _ => (-1, 0, List.replicate 40 0)) := by
    refine ⟨⟨by decide, by omega, by decide, by omega, by decide, fun i hi => absurd hi (Nat.not_lt_zero i), ?_, rfl, ?_, g3, g4, g5, g6, g7, g8⟩, by decide, by decide, ⟨by decide, fun i hi => ?_⟩, ⟨by decide, fun j hj => absurd hj (Nat.not_lt_zero j)⟩, fun i hi => ⟨?_, fun h => absurd rfl h⟩, fun h => Bool.noConfusion h, fun _ => by decide⟩
    · rw [rzM]; rfl
    · rw [rzM]; rfl
    · obtain rfl : i = 0 := by have : i < 1 := hi; omega
      refine ⟨rfl, fun j hj => ?_⟩
      rw [show 0 * 160 + j = j by omega]
      exact hT j hj
    · show (List.replicate 4 (0 : Int32)).getD i 0 = _
      rw [rzI]
      rfl
  exact ⟨1, 0, 0, 0, (List.replicate 7 0), (List.replicate 7 0), (List.replicate 7 0), (List.replicate 49 0), false, 1, 0, 0, 0, (List.replicate 7 0), (List.replicate 7 0), (List.replicate 7 0), (List.replicate 49 0), [L0S], [], (fun _ => (-1, 0, List.replicate 40 0)), aI, 0, bI0 T, hC, hP, hR.self, hI⟩
