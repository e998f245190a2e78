set_option maxHeartbeats 4000000 in
theorem c_copy {σ : ZS} {tx ik : Int32} (k0 : zg σ 0 = some (.inr (.inr (6, [.ref 1, .ref 6, .ref 11, .ref 16, .ref 22, .ref 28, .ref 31, .int tx, .int ik])))) {sh : Nat → SH} (hS : CSH σ sh) (hG : SHG sh) {i : Nat} (hi4 : i < 4) {i2 : Nat} (hi42 : i2 < 4) (hne : ¬ (sh i).1 = -1) (hne2 : ¬ (sh i2).1 = -1) {u v z : Nat} (hu : u + z ≤ (sh i).2.1) (hv : v + z ≤ (sh i2).2.1) (hso : (sh i).1 = (sh i2).1) (hii : i ≠ i2) : Cn 2 M_X7_copy 0 0 [.ref 0, .int (nI i), .int (nI u), .int (nI i2), .int (nI v), .int (nI z)] σ (fun r9 σ' => r9 = some (.int (nI z)) ∧ CSH σ' (up sh i2 ((sh i2).1, (sh i2).2.1, zcpy (sh i).2.2 (sh i2).2.2 u v z)) ∧ Fr (fun j => j = 32 + 2 * i2 ∨ j = 33 + 2 * i2) σ σ') := by
  obtain ⟨g31, hS2⟩ := id hS
  obtain ⟨g0, g1⟩ := hS2 i hi4
  obtain ⟨hso9, hz40, hl40⟩ := hG i hi4
  obtain ⟨g02, g12⟩ := hS2 i2 hi42
  obtain ⟨hso92, hz402, hl402⟩ := hG i2 hi42
  have hne' : ¬ ((sh i).1).toInt = -1 := fun q => hne (Int32.toInt_inj.mp q)
  have hne2' : ¬ ((sh i2).1).toInt = -1 := fun q => hne2 (Int32.toInt_inj.mp q)
  refine Cn.intro (lv0 := [some (.ref 0), some (.int (nI i)), some (.int (nI u)), some (.int (nI i2)), some (.int (nI v)), some (.int (nI z)), none, none]) rfl (Nat.le_of_ble_eq_true rfl) rfl (fun d hd => ?_)
  refine x_iload_n dX7_copy_0 rfl ?_
  refine x_callS m_X7_isSheet l_X7_153 (c_isSheetP (p := ((i : Nat) : Int)) (nI_toInt (by omega))) (by omega) rfl rfl (Nat.le_of_ble_eq_true rfl) ⟨Nat.le_refl _, Nat.le_refl _⟩ dX7_copy_1 (fun r1 s1 q1 => ?_)
  obtain ⟨rfl, eq1⟩ := q1
  obtain rfl := eq1.symm
  refine x_stk (st' := [.int (bI (decide (0 ≤ ((i : Nat) : Int) ∧ ((i : Nat) : Int) ≤ 3)))]) rfl ?_
  refine x_ifP_eq (P := 0 ≤ ((i : Nat) : Int) ∧ ((i : Nat) : Int) ≤ 3) inferInstance (tgt := 14) dX7_copy_4 (by decide) (fun hv2 => ?_) (fun hv2 => ?_)
  · exact absurd hv2 (by omega)
  · refine x_iload_n dX7_copy_7 rfl ?_
    refine x_callS m_X7_isSheet l_X7_153 (c_isSheetP (p := ((i2 : Nat) : Int)) (nI_toInt (by omega))) (by omega) rfl rfl (Nat.le_of_ble_eq_true rfl) ⟨Nat.le_refl _, Nat.le_refl _⟩ dX7_copy_8 (fun r3 s3 q3 => ?_)
    obtain ⟨rfl, eq3⟩ := q3
    obtain rfl := eq3.symm
    refine x_stk (st' := [.int (bI (decide (0 ≤ ((i2 : Nat) : Int) ∧ ((i2 : Nat) : Int) ≤ 3)))]) rfl ?_
    refine x_ifP_ne (P := 0 ≤ ((i2 : Nat) : Int) ∧ ((i2 : Nat) : Int) ≤ 3) inferInstance (tgt := 17) dX7_copy_11 (by decide) (fun hv4 => ?_) (fun hv4 => ?_)
    · refine x_aload_n dX7_copy_17 rfl ?_
      refine x_get (v := .ref 31) f_X7_45 k0 rfl dX7_copy_18 ?_
      refine x_iload_n dX7_copy_21 rfl ?_
      refine x_aald (Or.inr rfl) g31 rfl (sh_aa hi4) dX7_copy_22 ?_
      refine x_astore dX7_copy_23 (by decide) rfl ?_
      refine x_lv (lv' := [some (.ref 0), some (.int (nI i)), some (.int (nI u)), some (.int (nI i2)), some (.int (nI v)), some (.int (nI z)), some (.ref (32 + 2 * i)), none]) rfl ?_
      refine x_aload_n dX7_copy_25 rfl ?_
      refine x_get (v := .ref 31) f_X7_45 k0 rfl dX7_copy_26 ?_
      refine x_iload_n dX7_copy_29 rfl ?_
      refine x_aald (Or.inr rfl) g31 rfl (sh_aa hi42) dX7_copy_30 ?_
      refine x_astore dX7_copy_31 (by decide) rfl ?_
      refine x_lv (lv' := [some (.ref 0), some (.int (nI i)), some (.int (nI u)), some (.int (nI i2)), some (.int (nI v)), some (.int (nI z)), some (.ref (32 + 2 * i)), some (.ref (32 + 2 * i2))]) rfl ?_
      refine x_aload dX7_copy_33 rfl ?_
      refine x_get (v := .int ((sh i).1)) f_X7_179 g0 rfl dX7_copy_35 ?_
      refine x_iconst (v := (-1)) dX7_copy_38 (by decide) ?_
      refine x_icmpT_eq (p := ((sh i).1).toInt) (q := (-1)) (tgt := 51) rfl (by decide) dX7_copy_39 (by decide) (fun hv5 => ?_) (fun hv5 => ?_)
      · exact absurd hv5 (by omega)
      · refine x_aload dX7_copy_42 rfl ?_
        refine x_get (v := .int ((sh i2).1)) f_X7_179 g02 rfl dX7_copy_44 ?_
        refine x_iconst (v := (-1)) dX7_copy_47 (by decide) ?_
        refine x_icmpT_ne (p := ((sh i2).1).toInt) (q := (-1)) (tgt := 54) rfl (by decide) dX7_copy_48 (by decide) (fun hv6 => ?_) (fun hv6 => ?_)
        · refine x_aload dX7_copy_54 rfl ?_
          refine x_get (v := .int ((sh i).1)) f_X7_179 g0 rfl dX7_copy_56 ?_
          refine x_aload dX7_copy_59 rfl ?_
          refine x_get (v := .int ((sh i2).1)) f_X7_179 g02 rfl dX7_copy_61 ?_
          refine x_icmpT_eq (p := ((sh i).1).toInt) (q := ((sh i2).1).toInt) (tgt := 70) rfl rfl dX7_copy_64 (by decide) (fun hv7 => ?_) (fun hv7 => ?_)
          · refine x_aload dX7_copy_70 rfl ?_
            refine x_iload_n dX7_copy_72 rfl ?_
            refine x_iload dX7_copy_73 rfl ?_
            refine x_callV m_X6_hasItems l_X7_297 (c_hasItems g0 g1 hl40 hz40 (by omega) (p := ((u : Nat) : Int)) (q := ((z : Nat) : Int)) (nI_toInt (by omega)) (nI_toInt (by omega))) rfl g0 (by omega) rfl rfl (Nat.le_of_ble_eq_true rfl) ⟨Nat.le_refl _, Nat.le_refl _⟩ dX7_copy_75 (fun r8 s8 q8 => ?_)
            obtain ⟨rfl, eq8⟩ := q8
            obtain rfl := eq8.symm
            refine x_stk (st' := [.int (bI (decide (0 ≤ ((u : Nat) : Int) ∧ 0 ≤ ((z : Nat) : Int) ∧ ((u : Nat) : Int) + ((z : Nat) : Int) ≤ (((sh i).2.1 : Nat) : Int))))]) rfl ?_
            refine x_ifP_eq (P := 0 ≤ ((u : Nat) : Int) ∧ 0 ≤ ((z : Nat) : Int) ∧ ((u : Nat) : Int) + ((z : Nat) : Int) ≤ (((sh i).2.1 : Nat) : Int)) inferInstance (tgt := 93) dX7_copy_78 (by decide) (fun hv9 => ?_) (fun hv9 => ?_)
            · exact absurd hv9 (by omega)
            · refine x_aload dX7_copy_81 rfl ?_
              refine x_iload dX7_copy_83 rfl ?_
              refine x_iload dX7_copy_85 rfl ?_
              refine x_callV m_X6_hasItems l_X7_297 (c_hasItems g02 g12 hl402 hz402 (by omega) (p := ((v : Nat) : Int)) (q := ((z : Nat) : Int)) (nI_toInt (by omega)) (nI_toInt (by omega))) rfl g02 (by omega) rfl rfl (Nat.le_of_ble_eq_true rfl) ⟨Nat.le_refl _, Nat.le_refl _⟩ dX7_copy_87 (fun r10 s10 q10 => ?_)
              obtain ⟨rfl, eq10⟩ := q10
              obtain rfl := eq10.symm
              refine x_stk (st' := [.int (bI (decide (0 ≤ ((v : Nat) : Int) ∧ 0 ≤ ((z : Nat) : Int) ∧ ((v : Nat) : Int) + ((z : Nat) : Int) ≤ (((sh i2).2.1 : Nat) : Int))))]) rfl ?_
              refine x_ifP_ne (P := 0 ≤ ((v : Nat) : Int) ∧ 0 ≤ ((z : Nat) : Int) ∧ ((v : Nat) : Int) + ((z : Nat) : Int) ≤ (((sh i2).2.1 : Nat) : Int)) inferInstance (tgt := 96) dX7_copy_90 (by decide) (fun hv11 => ?_) (fun hv11 => ?_)
              · refine x_aload dX7_copy_96 rfl ?_
                refine x_get (v := .ref (33 + 2 * i)) f_X7_183 g0 rfl dX7_copy_98 ?_
                refine x_iload_n dX7_copy_101 rfl ?_
                refine x_aload dX7_copy_102 rfl ?_
                refine x_get (v := .ref (33 + 2 * i2)) f_X7_183 g02 rfl dX7_copy_104 ?_
                refine x_iload dX7_copy_107 rfl ?_
                refine x_iload dX7_copy_109 rfl ?_
                refine x_copyK (sp := u) (dp := v) (n := z) l_X7_300 g1 g12 rfl rfl rfl (by first | (rw [hl40]; omega) | (rw [hl402]; omega)) (by first | (rw [hl40]; omega) | (rw [hl402]; omega)) (by omega) (Nat.le_of_ble_eq_true rfl) dX7_copy_111 (fun sw12 gw12 Fw12 => ?_)
                refine x_iload dX7_copy_114 rfl ?_
                exact x_iret ⟨Nat.le_refl _, Nat.le_refl _⟩ rfl dX7_copy_116 ⟨rfl, hS.put hi42 (Fw12.mono (fun k hk => by omega)) (Fw12.at (by omega) g02) gw12, Fw12.mono (fun k hk => by omega)⟩
              · exact absurd hv11 (by omega)
          · exact absurd (congrArg Int32.toInt hso) hv7
        · exact absurd hv6 (by omega)
    · exact absurd hv4 (by omega)
set_option maxHeartbeats 4000000 in
theorem c_copy_s {σ : ZS} {tx ik : Int32} (k0 : zg σ 0 = some (.inr (.inr (6, [.ref 1, .ref 6, .ref 11, .ref 16, .ref 22, .ref 28, .ref 31, .int tx, .int ik])))) {sh : Nat → SH} (hS : CSH σ sh) (hG : SHG sh) {i : Nat} (hi4 : i < 4) (hne : ¬ (sh i).1 = -1) {u v z : Nat} (hu : u + z ≤ (sh i).2.1) (hv : v + z ≤ (sh i).2.1) : Cn 2 M_X7_copy 0 0 [.ref 0, .int (nI i), .int (nI u), .int (nI i), .int (nI v), .int (nI z)] σ (fun r9 σ' => r9 = some (.int (nI z)) ∧ CSH σ' (up sh i ((sh i).1, (sh i).2.1, zcpy (sh i).2.2 (sh i).2.2 u v z)) ∧ Fr (fun j => j = 32 + 2 * i ∨ j = 33 + 2 * i) σ σ') := by
  obtain ⟨g31, hS2⟩ := id hS
  obtain ⟨g0, g1⟩ := hS2 i hi4
  obtain ⟨hso9, hz40, hl40⟩ := hG i hi4
  have hne' : ¬ ((sh i).1).toInt = -1 := fun q => hne (Int32.toInt_inj.mp q)
  refine Cn.intro (lv0 := [some (.ref 0), some (.int (nI i)), some (.int (nI u)), some (.int (nI i)), some (.int (nI v)), some (.int (nI z)), none, none]) rfl (Nat.le_of_ble_eq_true rfl) rfl (fun d hd => ?_)
  refine x_iload_n dX7_copy_0 rfl ?_
  refine x_callS m_X7_isSheet l_X7_153 (c_isSheetP (p := ((i : Nat) : Int)) (nI_toInt (by omega))) (by omega) rfl rfl (Nat.le_of_ble_eq_true rfl) ⟨Nat.le_refl _, Nat.le_refl _⟩ dX7_copy_1 (fun r1 s1 q1 => ?_)
  obtain ⟨rfl, eq1⟩ := q1
  obtain rfl := eq1.symm
  refine x_stk (st' := [.int (bI (decide (0 ≤ ((i : Nat) : Int) ∧ ((i : Nat) : Int) ≤ 3)))]) rfl ?_
  refine x_ifP_eq (P := 0 ≤ ((i : Nat) : Int) ∧ ((i : Nat) : Int) ≤ 3) inferInstance (tgt := 14) dX7_copy_4 (by decide) (fun hv2 => ?_) (fun hv2 => ?_)
  · exact absurd hv2 (by omega)
  · refine x_iload_n dX7_copy_7 rfl ?_
    refine x_callS m_X7_isSheet l_X7_153 (c_isSheetP (p := ((i : Nat) : Int)) (nI_toInt (by omega))) (by omega) rfl rfl (Nat.le_of_ble_eq_true rfl) ⟨Nat.le_refl _, Nat.le_refl _⟩ dX7_copy_8 (fun r3 s3 q3 => ?_)
    obtain ⟨rfl, eq3⟩ := q3
    obtain rfl := eq3.symm
    refine x_stk (st' := [.int (bI (decide (0 ≤ ((i : Nat) : Int) ∧ ((i : Nat) : Int) ≤ 3)))]) rfl ?_
    refine x_ifP_ne (P := 0 ≤ ((i : Nat) : Int) ∧ ((i : Nat) : Int) ≤ 3) inferInstance (tgt := 17) dX7_copy_11 (by decide) (fun hv4 => ?_) (fun hv4 => ?_)
    · refine x_aload_n dX7_copy_17 rfl ?_
      refine x_get (v := .ref 31) f_X7_45 k0 rfl dX7_copy_18 ?_
      refine x_iload_n dX7_copy_21 rfl ?_
      refine x_aald (Or.inr rfl) g31 rfl (sh_aa hi4) dX7_copy_22 ?_
      refine x_astore dX7_copy_23 (by decide) rfl ?_
      refine x_lv (lv' := [some (.ref 0), some (.int (nI i)), some (.int (nI u)), some (.int (nI i)), some (.int (nI v)), some (.int (nI z)), some (.ref (32 + 2 * i)), none]) rfl ?_
      refine x_aload_n dX7_copy_25 rfl ?_
      refine x_get (v := .ref 31) f_X7_45 k0 rfl dX7_copy_26 ?_
      refine x_iload_n dX7_copy_29 rfl ?_
      refine x_aald (Or.inr rfl) g31 rfl (sh_aa hi4) dX7_copy_30 ?_
      refine x_astore dX7_copy_31 (by decide) rfl ?_
      refine x_lv (lv' := [some (.ref 0), some (.int (nI i)), some (.int (nI u)), some (.int (nI i)), some (.int (nI v)), some (.int (nI z)), some (.ref (32 + 2 * i)), some (.ref (32 + 2 * i))]) rfl ?_
      refine x_aload dX7_copy_33 rfl ?_
      refine x_get (v := .int ((sh i).1)) f_X7_179 g0 rfl dX7_copy_35 ?_
      refine x_iconst (v := (-1)) dX7_copy_38 (by decide) ?_
      refine x_icmpT_eq (p := ((sh i).1).toInt) (q := (-1)) (tgt := 51) rfl (by decide) dX7_copy_39 (by decide) (fun hv5 => ?_) (fun hv5 => ?_)
      · exact absurd hv5 (by omega)
      · refine x_aload dX7_copy_42 rfl ?_
        refine x_get (v := .int ((sh i).1)) f_X7_179 g0 rfl dX7_copy_44 ?_
        refine x_iconst (v := (-1)) dX7_copy_47 (by decide) ?_
        refine x_icmpT_ne (p := ((sh i).1).toInt) (q := (-1)) (tgt := 54) rfl (by decide) dX7_copy_48 (by decide) (fun hv6 => ?_) (fun hv6 => ?_)
        · refine x_aload dX7_copy_54 rfl ?_
          refine x_get (v := .int ((sh i).1)) f_X7_179 g0 rfl dX7_copy_56 ?_
          refine x_aload dX7_copy_59 rfl ?_
          refine x_get (v := .int ((sh i).1)) f_X7_179 g0 rfl dX7_copy_61 ?_
          refine x_icmpT_eq (p := ((sh i).1).toInt) (q := ((sh i).1).toInt) (tgt := 70) rfl rfl dX7_copy_64 (by decide) (fun hv7 => ?_) (fun hv7 => ?_)
          · refine x_aload dX7_copy_70 rfl ?_
            refine x_iload_n dX7_copy_72 rfl ?_
            refine x_iload dX7_copy_73 rfl ?_
            refine x_callV m_X6_hasItems l_X7_297 (c_hasItems g0 g1 hl40 hz40 (by omega) (p := ((u : Nat) : Int)) (q := ((z : Nat) : Int)) (nI_toInt (by omega)) (nI_toInt (by omega))) rfl g0 (by omega) rfl rfl (Nat.le_of_ble_eq_true rfl) ⟨Nat.le_refl _, Nat.le_refl _⟩ dX7_copy_75 (fun r8 s8 q8 => ?_)
            obtain ⟨rfl, eq8⟩ := q8
            obtain rfl := eq8.symm
            refine x_stk (st' := [.int (bI (decide (0 ≤ ((u : Nat) : Int) ∧ 0 ≤ ((z : Nat) : Int) ∧ ((u : Nat) : Int) + ((z : Nat) : Int) ≤ (((sh i).2.1 : Nat) : Int))))]) rfl ?_
            refine x_ifP_eq (P := 0 ≤ ((u : Nat) : Int) ∧ 0 ≤ ((z : Nat) : Int) ∧ ((u : Nat) : Int) + ((z : Nat) : Int) ≤ (((sh i).2.1 : Nat) : Int)) inferInstance (tgt := 93) dX7_copy_78 (by decide) (fun hv9 => ?_) (fun hv9 => ?_)
            · exact absurd hv9 (by omega)
            · refine x_aload dX7_copy_81 rfl ?_
              refine x_iload dX7_copy_83 rfl ?_
              refine x_iload dX7_copy_85 rfl ?_
              refine x_callV m_X6_hasItems l_X7_297 (c_hasItems g0 g1 hl40 hz40 (by omega) (p := ((v : Nat) : Int)) (q := ((z : Nat) : Int)) (nI_toInt (by omega)) (nI_toInt (by omega))) rfl g0 (by omega) rfl rfl (Nat.le_of_ble_eq_true rfl) ⟨Nat.le_refl _, Nat.le_refl _⟩ dX7_copy_87 (fun r10 s10 q10 => ?_)
              obtain ⟨rfl, eq10⟩ := q10
              obtain rfl := eq10.symm
              refine x_stk (st' := [.int (bI (decide (0 ≤ ((v : Nat) : Int) ∧ 0 ≤ ((z : Nat) : Int) ∧ ((v : Nat) : Int) + ((z : Nat) : Int) ≤ (((sh i).2.1 : Nat) : Int))))]) rfl ?_
              refine x_ifP_ne (P := 0 ≤ ((v : Nat) : Int) ∧ 0 ≤ ((z : Nat) : Int) ∧ ((v : Nat) : Int) + ((z : Nat) : Int) ≤ (((sh i).2.1 : Nat) : Int)) inferInstance (tgt := 96) dX7_copy_90 (by decide) (fun hv11 => ?_) (fun hv11 => ?_)
              · refine x_aload dX7_copy_96 rfl ?_
                refine x_get (v := .ref (33 + 2 * i)) f_X7_183 g0 rfl dX7_copy_98 ?_
                refine x_iload_n dX7_copy_101 rfl ?_
                refine x_aload dX7_copy_102 rfl ?_
                refine x_get (v := .ref (33 + 2 * i)) f_X7_183 g0 rfl dX7_copy_104 ?_
                refine x_iload dX7_copy_107 rfl ?_
                refine x_iload dX7_copy_109 rfl ?_
                refine x_copyK (sp := u) (dp := v) (n := z) l_X7_300 g1 g1 rfl rfl rfl (by first | (rw [hl40]; omega) | (rw [hl402]; omega)) (by first | (rw [hl40]; omega) | (rw [hl402]; omega)) (by omega) (Nat.le_of_ble_eq_true rfl) dX7_copy_111 (fun sw12 gw12 Fw12 => ?_)
                refine x_iload dX7_copy_114 rfl ?_
                exact x_iret ⟨Nat.le_refl _, Nat.le_refl _⟩ rfl dX7_copy_116 ⟨rfl, hS.put hi4 (Fw12.mono (fun k hk => by omega)) (Fw12.at (by omega) g0) gw12, Fw12.mono (fun k hk => by omega)⟩
              · exact absurd hv11 (by omega)
          · exact absurd rfl hv7
        · exact absurd hv6 (by omega)
    · exact absurd hv4 (by omega)
set_option maxHeartbeats 4000000 in
theorem c_copy_b0 {σ : ZS} {tx ik : Int32} (k0 : zg σ 0 = some (.inr (.inr (6, [.ref 1, .ref 6, .ref 11, .ref 16, .ref 22, .ref 28, .ref 31, .int tx, .int ik])))) {x y p q z : Int32} (hb : ¬ (0 ≤ x.toInt ∧ x.toInt ≤ 3) ∨ ¬ (0 ≤ y.toInt ∧ y.toInt ≤ 3)) : Cn 2 M_X7_copy 0 0 [.ref 0, .int x, .int p, .int y, .int q, .int z] σ (fun r9 σ' => r9 = some (.int (-2)) ∧ σ' = σ) := by
  refine Cn.intro (lv0 := [some (.ref 0), some (.int x), some (.int p), some (.int y), some (.int q), some (.int z), none, none]) rfl (Nat.le_of_ble_eq_true rfl) rfl (fun d hd => ?_)
  refine x_iload_n dX7_copy_0 rfl ?_
  refine x_callS m_X7_isSheet l_X7_153 (c_isSheetP (p := (x).toInt) rfl) (by omega) rfl rfl (Nat.le_of_ble_eq_true rfl) ⟨Nat.le_refl _, Nat.le_refl _⟩ dX7_copy_1 (fun r1 s1 q1 => ?_)
  obtain ⟨rfl, eq1⟩ := q1
  obtain rfl := eq1.symm
  refine x_stk (st' := [.int (bI (decide (0 ≤ (x).toInt ∧ (x).toInt ≤ 3)))]) rfl ?_
  refine x_ifP_eq (P := 0 ≤ (x).toInt ∧ (x).toInt ≤ 3) inferInstance (tgt := 14) dX7_copy_4 (by decide) (fun hv2 => ?_) (fun hv2 => ?_)
  · refine x_bipush (v := (-2)) dX7_copy_14 (by decide) ?_
    exact x_iret ⟨Nat.le_refl _, Nat.le_refl _⟩ rfl dX7_copy_16 ⟨rfl, rfl⟩
  · refine x_iload_n dX7_copy_7 rfl ?_
    refine x_callS m_X7_isSheet l_X7_153 (c_isSheetP (p := (y).toInt) rfl) (by omega) rfl rfl (Nat.le_of_ble_eq_true rfl) ⟨Nat.le_refl _, Nat.le_refl _⟩ dX7_copy_8 (fun r3 s3 q3 => ?_)
    obtain ⟨rfl, eq3⟩ := q3
    obtain rfl := eq3.symm
    refine x_stk (st' := [.int (bI (decide (0 ≤ (y).toInt ∧ (y).toInt ≤ 3)))]) rfl ?_
    refine x_ifP_ne (P := 0 ≤ (y).toInt ∧ (y).toInt ≤ 3) inferInstance (tgt := 17) dX7_copy_11 (by decide) (fun hv4 => ?_) (fun hv4 => ?_)
    · exact absurd hv4 (by omega)
    · refine x_bipush (v := (-2)) dX7_copy_14 (by decide) ?_
      exact x_iret ⟨Nat.le_refl _, Nat.le_refl _⟩ rfl dX7_copy_16 ⟨rfl, rfl⟩
set_option maxHeartbeats 4000000 in
theorem c_copy_b1 {σ : ZS} {tx ik : Int32} (k0 : zg σ 0 = some (.inr (.inr (6, [.ref 1, .ref 6, .ref 11, .ref 16, .ref 22, .ref 28, .ref 31, .int tx, .int ik])))) {sh : Nat → SH} (hS : CSH σ sh) (hG : SHG sh) {i : Nat} (hi4 : i < 4) {i2 : Nat} (hi42 : i2 < 4) (hb : (sh i).1 = -1 ∨ (sh i2).1 = -1) {p q z : Int32} : Cn 2 M_X7_copy 0 0 [.ref 0, .int (nI i), .int p, .int (nI i2), .int q, .int z] σ (fun r9 σ' => r9 = some (.int (-11)) ∧ σ' = σ) := by
  obtain ⟨g31, hS2⟩ := id hS
  obtain ⟨g0, g1⟩ := hS2 i hi4
  obtain ⟨hso9, hz40, hl40⟩ := hG i hi4
  obtain ⟨g02, g12⟩ := hS2 i2 hi42
  obtain ⟨hso92, hz402, hl402⟩ := hG i2 hi42
  have hb' : ((sh i).1).toInt = -1 ∨ ((sh i2).1).toInt = -1 := hb.imp (fun q => by rw [q]; decide) (fun q => by rw [q]; decide)
  refine Cn.intro (lv0 := [some (.ref 0), some (.int (nI i)), some (.int p), some (.int (nI i2)), some (.int q), some (.int z), none, none]) rfl (Nat.le_of_ble_eq_true rfl) rfl (fun d hd => ?_)
  refine x_iload_n dX7_copy_0 rfl ?_
  refine x_callS m_X7_isSheet l_X7_153 (c_isSheetP (p := ((i : Nat) : Int)) (nI_toInt (by omega))) (by omega) rfl rfl (Nat.le_of_ble_eq_true rfl) ⟨Nat.le_refl _, Nat.le_refl _⟩ dX7_copy_1 (fun r1 s1 q1 => ?_)
  obtain ⟨rfl, eq1⟩ := q1
  obtain rfl := eq1.symm
  refine x_stk (st' := [.int (bI (decide (0 ≤ ((i : Nat) : Int) ∧ ((i : Nat) : Int) ≤ 3)))]) rfl ?_
  refine x_ifP_eq (P := 0 ≤ ((i : Nat) : Int) ∧ ((i : Nat) : Int) ≤ 3) inferInstance (tgt := 14) dX7_copy_4 (by decide) (fun hv2 => ?_) (fun hv2 => ?_)
  · exact absurd hv2 (by omega)
  · refine x_iload_n dX7_copy_7 rfl ?_
    refine x_callS m_X7_isSheet l_X7_153 (c_isSheetP (p := ((i2 : Nat) : Int)) (nI_toInt (by omega))) (by omega) rfl rfl (Nat.le_of_ble_eq_true rfl) ⟨Nat.le_refl _, Nat.le_refl _⟩ dX7_copy_8 (fun r3 s3 q3 => ?_)
    obtain ⟨rfl, eq3⟩ := q3
    obtain rfl := eq3.symm
    refine x_stk (st' := [.int (bI (decide (0 ≤ ((i2 : Nat) : Int) ∧ ((i2 : Nat) : Int) ≤ 3)))]) rfl ?_
    refine x_ifP_ne (P := 0 ≤ ((i2 : Nat) : Int) ∧ ((i2 : Nat) : Int) ≤ 3) inferInstance (tgt := 17) dX7_copy_11 (by decide) (fun hv4 => ?_) (fun hv4 => ?_)
    · refine x_aload_n dX7_copy_17 rfl ?_
      refine x_get (v := .ref 31) f_X7_45 k0 rfl dX7_copy_18 ?_
      refine x_iload_n dX7_copy_21 rfl ?_
      refine x_aald (Or.inr rfl) g31 rfl (sh_aa hi4) dX7_copy_22 ?_
      refine x_astore dX7_copy_23 (by decide) rfl ?_
      refine x_lv (lv' := [some (.ref 0), some (.int (nI i)), some (.int p), some (.int (nI i2)), some (.int q), some (.int z), some (.ref (32 + 2 * i)), none]) rfl ?_
      refine x_aload_n dX7_copy_25 rfl ?_
      refine x_get (v := .ref 31) f_X7_45 k0 rfl dX7_copy_26 ?_
      refine x_iload_n dX7_copy_29 rfl ?_
      refine x_aald (Or.inr rfl) g31 rfl (sh_aa hi42) dX7_copy_30 ?_
      refine x_astore dX7_copy_31 (by decide) rfl ?_
      refine x_lv (lv' := [some (.ref 0), some (.int (nI i)), some (.int p), some (.int (nI i2)), some (.int q), some (.int z), some (.ref (32 + 2 * i)), some (.ref (32 + 2 * i2))]) rfl ?_
      refine x_aload dX7_copy_33 rfl ?_
      refine x_get (v := .int ((sh i).1)) f_X7_179 g0 rfl dX7_copy_35 ?_
      refine x_iconst (v := (-1)) dX7_copy_38 (by decide) ?_
      refine x_icmpT_eq (p := ((sh i).1).toInt) (q := (-1)) (tgt := 51) rfl (by decide) dX7_copy_39 (by decide) (fun hv5 => ?_) (fun hv5 => ?_)
      · refine x_bipush (v := (-11)) dX7_copy_51 (by decide) ?_
        exact x_iret ⟨Nat.le_refl _, Nat.le_refl _⟩ rfl dX7_copy_53 ⟨rfl, rfl⟩
      · refine x_aload dX7_copy_42 rfl ?_
        refine x_get (v := .int ((sh i2).1)) f_X7_179 g02 rfl dX7_copy_44 ?_
        refine x_iconst (v := (-1)) dX7_copy_47 (by decide) ?_
        refine x_icmpT_ne (p := ((sh i2).1).toInt) (q := (-1)) (tgt := 54) rfl (by decide) dX7_copy_48 (by decide) (fun hv6 => ?_) (fun hv6 => ?_)
        · exact absurd hv6 (by omega)
        · refine x_bipush (v := (-11)) dX7_copy_51 (by decide) ?_
          exact x_iret ⟨Nat.le_refl _, Nat.le_refl _⟩ rfl dX7_copy_53 ⟨rfl, rfl⟩
    · exact absurd hv4 (by omega)
set_option maxHeartbeats 4000000 in
theorem c_copy_b2 {σ : ZS} {tx ik : Int32} (k0 : zg σ 0 = some (.inr (.inr (6, [.ref 1, .ref 6, .ref 11, .ref 16, .ref 22, .ref 28, .ref 31, .int tx, .int ik])))) {sh : Nat → SH} (hS : CSH σ sh) (hG : SHG sh) {i : Nat} (hi4 : i < 4) {i2 : Nat} (hi42 : i2 < 4) (hne : ¬ (sh i).1 = -1) (hne2 : ¬ (sh i2).1 = -1) (hb : ¬ (sh i).1 = (sh i2).1) {p q z : Int32} : Cn 2 M_X7_copy 0 0 [.ref 0, .int (nI i), .int p, .int (nI i2), .int q, .int z] σ (fun r9 σ' => r9 = some (.int (-13)) ∧ σ' = σ) := by
  obtain ⟨g31, hS2⟩ := id hS
  obtain ⟨g0, g1⟩ := hS2 i hi4
  obtain ⟨hso9, hz40, hl40⟩ := hG i hi4
  obtain ⟨g02, g12⟩ := hS2 i2 hi42
  obtain ⟨hso92, hz402, hl402⟩ := hG i2 hi42
  have hne' : ¬ ((sh i).1).toInt = -1 := fun q => hne (Int32.toInt_inj.mp q)
  have hne2' : ¬ ((sh i2).1).toInt = -1 := fun q => hne2 (Int32.toInt_inj.mp q)
  refine Cn.intro (lv0 := [some (.ref 0), some (.int (nI i)), some (.int p), some (.int (nI i2)), some (.int q), some (.int z), none, none]) rfl (Nat.le_of_ble_eq_true rfl) rfl (fun d hd => ?_)
  refine x_iload_n dX7_copy_0 rfl ?_
  refine x_callS m_X7_isSheet l_X7_153 (c_isSheetP (p := ((i : Nat) : Int)) (nI_toInt (by omega))) (by omega) rfl rfl (Nat.le_of_ble_eq_true rfl) ⟨Nat.le_refl _, Nat.le_refl _⟩ dX7_copy_1 (fun r1 s1 q1 => ?_)
  obtain ⟨rfl, eq1⟩ := q1
  obtain rfl := eq1.symm
  refine x_stk (st' := [.int (bI (decide (0 ≤ ((i : Nat) : Int) ∧ ((i : Nat) : Int) ≤ 3)))]) rfl ?_
  refine x_ifP_eq (P := 0 ≤ ((i : Nat) : Int) ∧ ((i : Nat) : Int) ≤ 3) inferInstance (tgt := 14) dX7_copy_4 (by decide) (fun hv2 => ?_) (fun hv2 => ?_)
  · exact absurd hv2 (by omega)
  · refine x_iload_n dX7_copy_7 rfl ?_
    refine x_callS m_X7_isSheet l_X7_153 (c_isSheetP (p := ((i2 : Nat) : Int)) (nI_toInt (by omega))) (by omega) rfl rfl (Nat.le_of_ble_eq_true rfl) ⟨Nat.le_refl _, Nat.le_refl _⟩ dX7_copy_8 (fun r3 s3 q3 => ?_)
    obtain ⟨rfl, eq3⟩ := q3
    obtain rfl := eq3.symm
    refine x_stk (st' := [.int (bI (decide (0 ≤ ((i2 : Nat) : Int) ∧ ((i2 : Nat) : Int) ≤ 3)))]) rfl ?_
    refine x_ifP_ne (P := 0 ≤ ((i2 : Nat) : Int) ∧ ((i2 : Nat) : Int) ≤ 3) inferInstance (tgt := 17) dX7_copy_11 (by decide) (fun hv4 => ?_) (fun hv4 => ?_)
    · refine x_aload_n dX7_copy_17 rfl ?_
      refine x_get (v := .ref 31) f_X7_45 k0 rfl dX7_copy_18 ?_
      refine x_iload_n dX7_copy_21 rfl ?_
      refine x_aald (Or.inr rfl) g31 rfl (sh_aa hi4) dX7_copy_22 ?_
      refine x_astore dX7_copy_23 (by decide) rfl ?_
      refine x_lv (lv' := [some (.ref 0), some (.int (nI i)), some (.int p), some (.int (nI i2)), some (.int q), some (.int z), some (.ref (32 + 2 * i)), none]) rfl ?_
      refine x_aload_n dX7_copy_25 rfl ?_
      refine x_get (v := .ref 31) f_X7_45 k0 rfl dX7_copy_26 ?_
      refine x_iload_n dX7_copy_29 rfl ?_
      refine x_aald (Or.inr rfl) g31 rfl (sh_aa hi42) dX7_copy_30 ?_
      refine x_astore dX7_copy_31 (by decide) rfl ?_
      refine x_lv (lv' := [some (.ref 0), some (.int (nI i)), some (.int p), some (.int (nI i2)), some (.int q), some (.int z), some (.ref (32 + 2 * i)), some (.ref (32 + 2 * i2))]) rfl ?_
      refine x_aload dX7_copy_33 rfl ?_
      refine x_get (v := .int ((sh i).1)) f_X7_179 g0 rfl dX7_copy_35 ?_
      refine x_iconst (v := (-1)) dX7_copy_38 (by decide) ?_
      refine x_icmpT_eq (p := ((sh i).1).toInt) (q := (-1)) (tgt := 51) rfl (by decide) dX7_copy_39 (by decide) (fun hv5 => ?_) (fun hv5 => ?_)
      · exact absurd hv5 (by omega)
      · refine x_aload dX7_copy_42 rfl ?_
        refine x_get (v := .int ((sh i2).1)) f_X7_179 g02 rfl dX7_copy_44 ?_
        refine x_iconst (v := (-1)) dX7_copy_47 (by decide) ?_
        refine x_icmpT_ne (p := ((sh i2).1).toInt) (q := (-1)) (tgt := 54) rfl (by decide) dX7_copy_48 (by decide) (fun hv6 => ?_) (fun hv6 => ?_)
        · refine x_aload dX7_copy_54 rfl ?_
          refine x_get (v := .int ((sh i).1)) f_X7_179 g0 rfl dX7_copy_56 ?_
          refine x_aload dX7_copy_59 rfl ?_
          refine x_get (v := .int ((sh i2).1)) f_X7_179 g02 rfl dX7_copy_61 ?_
          refine x_icmpT_eq (p := ((sh i).1).toInt) (q := ((sh i2).1).toInt) (tgt := 70) rfl rfl dX7_copy_64 (by decide) (fun hv7 => ?_) (fun hv7 => ?_)
          · exact absurd (Int32.toInt_inj.mp hv7) hb
          · refine x_bipush (v := (-13)) dX7_copy_67 (by decide) ?_
            exact x_iret ⟨Nat.le_refl _, Nat.le_refl _⟩ rfl dX7_copy_69 ⟨rfl, rfl⟩
        · exact absurd hv6 (by omega)
    · exact absurd hv4 (by omega)
set_option maxHeartbeats 4000000 in
theorem c_copy_b3 {σ : ZS} {tx ik : Int32} (k0 : zg σ 0 = some (.inr (.inr (6, [.ref 1, .ref 6, .ref 11, .ref 16, .ref 22, .ref 28, .ref 31, .int tx, .int ik])))) {sh : Nat → SH} (hS : CSH σ sh) (hG : SHG sh) {i : Nat} (hi4 : i < 4) {i2 : Nat} (hi42 : i2 < 4) (hne : ¬ (sh i).1 = -1) (hne2 : ¬ (sh i2).1 = -1) (hso : (sh i).1 = (sh i2).1) {p q z : Int32} (hb : ¬ (0 ≤ z.toInt ∧ 0 ≤ p.toInt ∧ 0 ≤ q.toInt ∧ p.toInt + z.toInt ≤ (((sh i).2.1 : Nat) : Int) ∧ q.toInt + z.toInt ≤ (((sh i2).2.1 : Nat) : Int))) : Cn 2 M_X7_copy 0 0 [.ref 0, .int (nI i), .int p, .int (nI i2), .int q, .int z] σ (fun r9 σ' => r9 = some (.int (-12)) ∧ σ' = σ) := by
  obtain ⟨g31, hS2⟩ := id hS
  obtain ⟨g0, g1⟩ := hS2 i hi4
  obtain ⟨hso9, hz40, hl40⟩ := hG i hi4
  obtain ⟨g02, g12⟩ := hS2 i2 hi42
  obtain ⟨hso92, hz402, hl402⟩ := hG i2 hi42
  have hne' : ¬ ((sh i).1).toInt = -1 := fun q => hne (Int32.toInt_inj.mp q)
  have hne2' : ¬ ((sh i2).1).toInt = -1 := fun q => hne2 (Int32.toInt_inj.mp q)
  refine Cn.intro (lv0 := [some (.ref 0), some (.int (nI i)), some (.int p), some (.int (nI i2)), some (.int q), some (.int z), none, none]) rfl (Nat.le_of_ble_eq_true rfl) rfl (fun d hd => ?_)
  refine x_iload_n dX7_copy_0 rfl ?_
  refine x_callS m_X7_isSheet l_X7_153 (c_isSheetP (p := ((i : Nat) : Int)) (nI_toInt (by omega))) (by omega) rfl rfl (Nat.le_of_ble_eq_true rfl) ⟨Nat.le_refl _, Nat.le_refl _⟩ dX7_copy_1 (fun r1 s1 q1 => ?_)
  obtain ⟨rfl, eq1⟩ := q1
  obtain rfl := eq1.symm
  refine x_stk (st' := [.int (bI (decide (0 ≤ ((i : Nat) : Int) ∧ ((i : Nat) : Int) ≤ 3)))]) rfl ?_
  refine x_ifP_eq (P := 0 ≤ ((i : Nat) : Int) ∧ ((i : Nat) : Int) ≤ 3) inferInstance (tgt := 14) dX7_copy_4 (by decide) (fun hv2 => ?_) (fun hv2 => ?_)
  · exact absurd hv2 (by omega)
  · refine x_iload_n dX7_copy_7 rfl ?_
    refine x_callS m_X7_isSheet l_X7_153 (c_isSheetP (p := ((i2 : Nat) : Int)) (nI_toInt (by omega))) (by omega) rfl rfl (Nat.le_of_ble_eq_true rfl) ⟨Nat.le_refl _, Nat.le_refl _⟩ dX7_copy_8 (fun r3 s3 q3 => ?_)
    obtain ⟨rfl, eq3⟩ := q3
    obtain rfl := eq3.symm
    refine x_stk (st' := [.int (bI (decide (0 ≤ ((i2 : Nat) : Int) ∧ ((i2 : Nat) : Int) ≤ 3)))]) rfl ?_
    refine x_ifP_ne (P := 0 ≤ ((i2 : Nat) : Int) ∧ ((i2 : Nat) : Int) ≤ 3) inferInstance (tgt := 17) dX7_copy_11 (by decide) (fun hv4 => ?_) (fun hv4 => ?_)
    · refine x_aload_n dX7_copy_17 rfl ?_
      refine x_get (v := .ref 31) f_X7_45 k0 rfl dX7_copy_18 ?_
      refine x_iload_n dX7_copy_21 rfl ?_
      refine x_aald (Or.inr rfl) g31 rfl (sh_aa hi4) dX7_copy_22 ?_
      refine x_astore dX7_copy_23 (by decide) rfl ?_
      refine x_lv (lv' := [some (.ref 0), some (.int (nI i)), some (.int p), some (.int (nI i2)), some (.int q), some (.int z), some (.ref (32 + 2 * i)), none]) rfl ?_
      refine x_aload_n dX7_copy_25 rfl ?_
      refine x_get (v := .ref 31) f_X7_45 k0 rfl dX7_copy_26 ?_
      refine x_iload_n dX7_copy_29 rfl ?_
      refine x_aald (Or.inr rfl) g31 rfl (sh_aa hi42) dX7_copy_30 ?_
      refine x_astore dX7_copy_31 (by decide) rfl ?_
      refine x_lv (lv' := [some (.ref 0), some (.int (nI i)), some (.int p), some (.int (nI i2)), some (.int q), some (.int z), some (.ref (32 + 2 * i)), some (.ref (32 + 2 * i2))]) rfl ?_
      refine x_aload dX7_copy_33 rfl ?_
      refine x_get (v := .int ((sh i).1)) f_X7_179 g0 rfl dX7_copy_35 ?_
      refine x_iconst (v := (-1)) dX7_copy_38 (by decide) ?_
      refine x_icmpT_eq (p := ((sh i).1).toInt) (q := (-1)) (tgt := 51) rfl (by decide) dX7_copy_39 (by decide) (fun hv5 => ?_) (fun hv5 => ?_)
      · exact absurd hv5 (by omega)
      · refine x_aload dX7_copy_42 rfl ?_
        refine x_get (v := .int ((sh i2).1)) f_X7_179 g02 rfl dX7_copy_44 ?_
        refine x_iconst (v := (-1)) dX7_copy_47 (by decide) ?_
        refine x_icmpT_ne (p := ((sh i2).1).toInt) (q := (-1)) (tgt := 54) rfl (by decide) dX7_copy_48 (by decide) (fun hv6 => ?_) (fun hv6 => ?_)
        · refine x_aload dX7_copy_54 rfl ?_
          refine x_get (v := .int ((sh i).1)) f_X7_179 g0 rfl dX7_copy_56 ?_
          refine x_aload dX7_copy_59 rfl ?_
          refine x_get (v := .int ((sh i2).1)) f_X7_179 g02 rfl dX7_copy_61 ?_
          refine x_icmpT_eq (p := ((sh i).1).toInt) (q := ((sh i2).1).toInt) (tgt := 70) rfl rfl dX7_copy_64 (by decide) (fun hv7 => ?_) (fun hv7 => ?_)
          · refine x_aload dX7_copy_70 rfl ?_
            refine x_iload_n dX7_copy_72 rfl ?_
            refine x_iload dX7_copy_73 rfl ?_
            refine x_callV m_X6_hasItems l_X7_297 (c_hasItems g0 g1 hl40 hz40 (by omega) (p := (p).toInt) (q := (z).toInt) rfl rfl) rfl g0 (by omega) rfl rfl (Nat.le_of_ble_eq_true rfl) ⟨Nat.le_refl _, Nat.le_refl _⟩ dX7_copy_75 (fun r8 s8 q8 => ?_)
            obtain ⟨rfl, eq8⟩ := q8
            obtain rfl := eq8.symm
            refine x_stk (st' := [.int (bI (decide (0 ≤ (p).toInt ∧ 0 ≤ (z).toInt ∧ (p).toInt + (z).toInt ≤ (((sh i).2.1 : Nat) : Int))))]) rfl ?_
            refine x_ifP_eq (P := 0 ≤ (p).toInt ∧ 0 ≤ (z).toInt ∧ (p).toInt + (z).toInt ≤ (((sh i).2.1 : Nat) : Int)) inferInstance (tgt := 93) dX7_copy_78 (by decide) (fun hv9 => ?_) (fun hv9 => ?_)
            · refine x_bipush (v := (-12)) dX7_copy_93 (by decide) ?_
              exact x_iret ⟨Nat.le_refl _, Nat.le_refl _⟩ rfl dX7_copy_95 ⟨rfl, rfl⟩
            · refine x_aload dX7_copy_81 rfl ?_
              refine x_iload dX7_copy_83 rfl ?_
              refine x_iload dX7_copy_85 rfl ?_
              refine x_callV m_X6_hasItems l_X7_297 (c_hasItems g02 g12 hl402 hz402 (by omega) (p := (q).toInt) (q := (z).toInt) rfl rfl) rfl g02 (by omega) rfl rfl (Nat.le_of_ble_eq_true rfl) ⟨Nat.le_refl _, Nat.le_refl _⟩ dX7_copy_87 (fun r10 s10 q10 => ?_)
              obtain ⟨rfl, eq10⟩ := q10
              obtain rfl := eq10.symm
              refine x_stk (st' := [.int (bI (decide (0 ≤ (q).toInt ∧ 0 ≤ (z).toInt ∧ (q).toInt + (z).toInt ≤ (((sh i2).2.1 : Nat) : Int))))]) rfl ?_
              refine x_ifP_ne (P := 0 ≤ (q).toInt ∧ 0 ≤ (z).toInt ∧ (q).toInt + (z).toInt ≤ (((sh i2).2.1 : Nat) : Int)) inferInstance (tgt := 96) dX7_copy_90 (by decide) (fun hv11 => ?_) (fun hv11 => ?_)
              · exact absurd hv11 (by omega)
              · refine x_bipush (v := (-12)) dX7_copy_93 (by decide) ?_
                exact x_iret ⟨Nat.le_refl _, Nat.le_refl _⟩ rfl dX7_copy_95 ⟨rfl, rfl⟩
          · exact absurd (congrArg Int32.toInt hso) hv7
        · exact absurd hv6 (by omega)
    · exact absurd hv4 (by omega)
def CP (σ : ZS) (rr dn ru : Nat) (D : List Nat) (P : PT4) : Prop := Pa σ 1 (nI rr) (nI dn) (nI ru) P.1 P.2.1 P.2.2.1 P.2.2.2 D ∧ Dz P.1 D
theorem c_guestG {σ : ZS} {tx ik : Int32} (k0 : zg σ 0 = some (.inr (.inr (6, [.ref 1, .ref 6, .ref 11, .ref 16, .ref 22, .ref 28, .ref 31, .int tx, .int ik])))) {rr dn ru : Nat} {D : List Nat} {P : PT4} (hC : CP σ rr dn ru D P) {x y : Int32} : Cn 2 M_X7_guest 0 0 [.ref 0, .int x, .int y] σ (fun r9 σ' => r9 = some (.int (gsV P.1 x y)) ∧ CP σ' rr dn ru D (gsP P x y) ∧ Fr (fun i => 1 ≤ i ∧ i ≤ 5) σ σ') := by
  obtain ⟨n, K, N, W⟩ := P
  obtain ⟨hC, hz⟩ := hC
  simp only at hC hz
  have hn7 := hC.2.2.2.2.2.1
  by_cases c : (0 ≤ x.toInt ∧ x.toInt ≤ 5) ∧ (0 ≤ y.toInt ∧ y.toInt ≤ 9)
  · by_cases h7 : n < 7
    · have hx : x = nI x.toInt.toNat := ni_of c.1.1
      have hy : y = nI y.toInt.toNat := ni_of c.2.1
      have h := c_guest (kd := x.toInt.toNat) (nu := y.toInt.toNat) k0 hC (by omega) (by omega) h7 (fun j hj => ⟨hz n j h7 (by omega) (Or.inl (Nat.le_refl _)), hz j n (by omega) h7 (Or.inr (Nat.le_refl _))⟩)
      rw [← hx, ← hy] at h
      have hb : gsB n x y = true := decide_eq_true ⟨c, h7⟩
      refine h.mono (fun r9 σ' hq => ?_)
      obtain ⟨h1, h2, h3⟩ := hq
      have e : gsP (n, K, N, W) x y = (n + 1, K.set n x.toInt.toNat, N.set n y.toInt.toNat, W.set n (-1)) := if_pos hb
      rw [e]
      exact ⟨by rw [h1, gsV, if_neg (fun z => z c), if_neg (by simp only; omega)], ⟨h2, fun i j hi hj hij => hz i j hi hj (by simp only at hij; omega)⟩, h3⟩
    · have hb : ¬ gsB n x y = true := fun z => h7 (of_decide_eq_true z).2
      have e : gsP (n, K, N, W) x y = (n, K, N, W) := if_neg hb
      refine (c_guest_f k0 hC c.1 c.2 (by omega)).mono (fun r9 σ' hq => ?_)
      rw [e]
      exact ⟨by rw [hq.1, gsV, if_neg (fun z => z c), if_pos (by simp only; omega)], by rw [hq.2]; exact ⟨hC, hz⟩, by rw [hq.2]; exact Fr.rf⟩
  · have hb : ¬ gsB n x y = true := fun z => c (of_decide_eq_true z).1
    have e : gsP (n, K, N, W) x y = (n, K, N, W) := if_neg hb
    refine (c_guest_b k0 hC (by omega)).mono (fun r9 σ' hq => ?_)
    rw [e]
    exact ⟨by rw [hq.1, gsV, if_pos c], by rw [hq.2]; exact ⟨hC, hz⟩, by rw [hq.2]; exact Fr.rf⟩
set_option maxHeartbeats 4000000 in
theorem l_welAll {σ0 : ZS} {tx ik : Int32} {rr dn ru : Nat} {D : List Nat} {sh : Nat → SH} {i : Nat} (hi4 : i < 4) (hz40 : (sh i).2.1 ≤ 40) (hl40 : (sh i).2.2.length = 40) {u n : Nat} (hu31 : u < 2147483648) (hn7 : n ≤ 7) {d : Nat} (hd : 3 ≤ d) : ∀ (q k : Nat) (c : Nat) (P : PT4) (σ : ZS) (hcc : c ≤ k) (k0 : zg σ 0 = some (.inr (.inr (6, [.ref 1, .ref 6, .ref 11, .ref 16, .ref 22, .ref 28, .ref 31, .int tx, .int ik])))) (g0 : zg σ (32 + 2 * i) = some (.inr (.inr (5, [.int (sh i).1, .int (nI (sh i).2.1), .ref (33 + 2 * i)])))) (g1 : zg σ (33 + 2 * i) = some (.inl (0, (sh i).2.2))) (hC : CP σ rr dn ru D P) (hF : Fr (fun i => 1 ≤ i ∧ i ≤ 5) σ0 σ), k + q = n → X M_X7_welcomeAll d 0 0 (fun r9 σ' => r9 = some (.int (gsF (sh i).2.2 (sh i).2.1 u q k c P).1) ∧ CP σ' rr dn ru D (gsF (sh i).2.2 (sh i).2.1 u q k c P).2 ∧ Fr (fun i => 1 ≤ i ∧ i ≤ 5) σ0 σ') 0 0 6 [some (.ref 0), some (.ref (32 + 2 * i)), some (.int (nI u)), some (.int (nI n)), some (.int (nI c)), some (.int (nI k)), none, none] [] σ := by
  intro q
  induction q with
  | zero =>
    intro k c P σ hcc k0 g0 g1 hC hF hk
    refine x_iload dX7_welcomeAll_6 rfl ?_
    refine x_iload_n dX7_welcomeAll_8 rfl ?_
    refine x_icmpN_ge (tgt := 84) dX7_welcomeAll_9 (by decide) (by omega) (by omega) (fun hv1 => ?_) (fun hv1 => ?_)
    · refine x_iload dX7_welcomeAll_84 rfl ?_
      exact x_iret ⟨Nat.le_refl _, Nat.le_refl _⟩ rfl dX7_welcomeAll_86 ⟨rfl, hC, hF⟩
    · exact absurd hv1 (by omega)
  | succ q ih =>
    intro k c P σ hcc k0 g0 g1 hC hF hk
    refine x_iload dX7_welcomeAll_6 rfl ?_
    refine x_iload_n dX7_welcomeAll_8 rfl ?_
    refine x_icmpN_ge (tgt := 84) dX7_welcomeAll_9 (by decide) (by omega) (by omega) (fun hv1 => ?_) (fun hv1 => ?_)
    · exact absurd hv1 (by omega)
    · refine x_aload_n dX7_welcomeAll_12 rfl ?_
      refine x_iload_n dX7_welcomeAll_13 rfl ?_
      refine x_iconst (v := nI 2) dX7_welcomeAll_14 (by decide) ?_
      refine x_iload dX7_welcomeAll_15 rfl ?_
      refine x_imulN dX7_welcomeAll_17 ?_
      refine x_iconst (v := nI 2) dX7_welcomeAll_18 (by decide) ?_
      refine x_iaddN dX7_welcomeAll_19 ?_
      refine x_callV m_X6_hasItems l_X7_297 (c_hasItems g0 g1 hl40 hz40 (by omega) (p := ((u : Nat) : Int)) (q := (((2 * k) + 2 : Nat) : Int)) (nI_toInt (by omega)) (nI_toInt (by omega))) rfl g0 (by omega) rfl rfl (Nat.le_of_ble_eq_true rfl) ⟨Nat.le_refl _, Nat.le_refl _⟩ dX7_welcomeAll_20 (fun r2 s2 q2 => ?_)
      obtain ⟨rfl, eq2⟩ := q2
      obtain rfl := eq2.symm
      refine x_stk (st' := [.int (bI (decide (0 ≤ ((u : Nat) : Int) ∧ 0 ≤ (((2 * k) + 2 : Nat) : Int) ∧ ((u : Nat) : Int) + (((2 * k) + 2 : Nat) : Int) ≤ (((sh i).2.1 : Nat) : Int))))]) rfl ?_
      refine x_ifP_ne (P := 0 ≤ ((u : Nat) : Int) ∧ 0 ≤ (((2 * k) + 2 : Nat) : Int) ∧ ((u : Nat) : Int) + (((2 * k) + 2 : Nat) : Int) ≤ (((sh i).2.1 : Nat) : Int)) inferInstance (tgt := 29) dX7_welcomeAll_23 (by decide) (fun hv3 => ?_) (fun hv3 => ?_)
      · refine x_aload_n dX7_welcomeAll_29 rfl ?_
        refine x_get (v := .ref (33 + 2 * i)) f_X7_183 g0 rfl dX7_welcomeAll_30 ?_
        refine x_iload_n dX7_welcomeAll_33 rfl ?_
        refine x_iconst (v := nI 2) dX7_welcomeAll_34 (by decide) ?_
        refine x_iload dX7_welcomeAll_35 rfl ?_
        refine x_imulN dX7_welcomeAll_37 ?_
        refine x_iaddN dX7_welcomeAll_38 ?_
        refine x_iald (n := u + (2 * k)) g1 rfl (by rw [hl40]; omega) dX7_welcomeAll_39 ?_
        refine x_istore dX7_welcomeAll_40 (by decide) rfl ?_
        refine x_lv (lv' := [some (.ref 0), some (.ref (32 + 2 * i)), some (.int (nI u)), some (.int (nI n)), some (.int (nI c)), some (.int (nI k)), some (.int (((sh i).2.2.getD (u + (2 * k)) 0))), none]) rfl ?_
        refine x_aload_n dX7_welcomeAll_42 rfl ?_
        refine x_get (v := .ref (33 + 2 * i)) f_X7_183 g0 rfl dX7_welcomeAll_43 ?_
        refine x_iload_n dX7_welcomeAll_46 rfl ?_
        refine x_iconst (v := nI 2) dX7_welcomeAll_47 (by decide) ?_
        refine x_iload dX7_welcomeAll_48 rfl ?_
        refine x_imulN dX7_welcomeAll_50 ?_
        refine x_iaddN dX7_welcomeAll_51 ?_
        refine x_iconst (v := nI 1) dX7_welcomeAll_52 (by decide) ?_
        refine x_iaddN dX7_welcomeAll_53 ?_
        refine x_iald (n := (u + (2 * k)) + 1) g1 rfl (by rw [hl40]; omega) dX7_welcomeAll_54 ?_
        refine x_istore dX7_welcomeAll_55 (by decide) rfl ?_
        refine x_lv (lv' := [some (.ref 0), some (.ref (32 + 2 * i)), some (.int (nI u)), some (.int (nI n)), some (.int (nI c)), some (.int (nI k)), some (.int (((sh i).2.2.getD (u + (2 * k)) 0))), some (.int (((sh i).2.2.getD ((u + (2 * k)) + 1) 0)))]) rfl ?_
        refine x_iload dX7_welcomeAll_57 rfl ?_
        refine x_aload_n dX7_welcomeAll_59 rfl ?_
        refine x_iload dX7_welcomeAll_60 rfl ?_
        refine x_iload dX7_welcomeAll_62 rfl ?_
        refine x_callV m_X7_guest l_X7_310 (c_guestG k0 hC (x := ((sh i).2.2.getD (u + 2 * k) 0)) (y := ((sh i).2.2.getD (u + 2 * k + 1) 0))) rfl k0 (by omega) rfl rfl (Nat.le_of_ble_eq_true rfl) ⟨Nat.le_refl _, Nat.le_refl _⟩ dX7_welcomeAll_64 (fun r4 s4 q4 => ?_)
        obtain ⟨rfl, C4, F4⟩ := q4
        have g4 := gsV_B (x := ((sh i).2.2.getD (u + 2 * k) 0)) (y := ((sh i).2.2.getD (u + 2 * k + 1) 0)) hC.1.2.2.2.2.2.1
        refine x_stk (st' := [.int ((gsV P.1 ((sh i).2.2.getD (u + 2 * k) 0) ((sh i).2.2.getD (u + 2 * k + 1) 0))), .int (nI c)]) rfl ?_
        refine x_ifT_lt (p := ((gsV P.1 ((sh i).2.2.getD (u + 2 * k) 0) ((sh i).2.2.getD (u + 2 * k + 1) 0))).toInt) (tgt := 74) rfl dX7_welcomeAll_67 (by decide) (fun hv5 => ?_) (fun hv5 => ?_)
        · refine x_iconst (v := nI 0) dX7_welcomeAll_74 (by decide) ?_
          refine x_iaddN dX7_welcomeAll_75 ?_
          refine x_istore dX7_welcomeAll_76 (by decide) rfl ?_
          refine x_lv (lv' := [some (.ref 0), some (.ref (32 + 2 * i)), some (.int (nI u)), some (.int (nI n)), some (.int (nI (c + 0))), some (.int (nI k)), some (.int (((sh i).2.2.getD (u + (2 * k)) 0))), some (.int (((sh i).2.2.getD ((u + (2 * k)) + 1) 0)))]) rfl ?_
          refine x_iincN dX7_welcomeAll_78 rfl (by decide) rfl ?_
          refine x_lv (lv' := [some (.ref 0), some (.ref (32 + 2 * i)), some (.int (nI u)), some (.int (nI n)), some (.int (nI (c + 0))), some (.int (nI (k + 1))), some (.int (((sh i).2.2.getD (u + (2 * k)) 0))), some (.int (((sh i).2.2.getD ((u + (2 * k)) + 1) 0)))]) rfl ?_
          refine x_goto (tgt := 6) dX7_welcomeAll_81 (by decide) ?_
          have e9 : (gsF (sh i).2.2 (sh i).2.1 u (q + 1) k c P) = (gsF (sh i).2.2 (sh i).2.1 u q (k + 1) (c + 0) (gsP P ((sh i).2.2.getD (u + 2 * k) 0) ((sh i).2.2.getD (u + 2 * k + 1) 0))) := by rw [gsF, if_neg (by omega), if_neg (fun z => by have := g4.mpr z; omega)]
          rw [e9]
          refine x_drop 6 (x_drop 7 ?_)
          exact ih (k + 1) (c + 0) _ s4 (by omega) (F4.at (by omega) k0) (F4.at (by omega) g0) (F4.at (by omega) g1) C4 (hF.tr (Fr.rf.tr (F4.mono (fun i hi => by omega)))) (by omega)
        · refine x_iconst (v := nI 1) dX7_welcomeAll_70 (by decide) ?_
          refine x_goto (tgt := 75) dX7_welcomeAll_71 (by decide) ?_
          refine x_iaddN dX7_welcomeAll_75 ?_
          refine x_istore dX7_welcomeAll_76 (by decide) rfl ?_
          refine x_lv (lv' := [some (.ref 0), some (.ref (32 + 2 * i)), some (.int (nI u)), some (.int (nI n)), some (.int (nI (c + 1))), some (.int (nI k)), some (.int (((sh i).2.2.getD (u + (2 * k)) 0))), some (.int (((sh i).2.2.getD ((u + (2 * k)) + 1) 0)))]) rfl ?_
          refine x_iincN dX7_welcomeAll_78 rfl (by decide) rfl ?_
          refine x_lv (lv' := [some (.ref 0), some (.ref (32 + 2 * i)), some (.int (nI u)), some (.int (nI n)), some (.int (nI (c + 1))), some (.int (nI (k + 1))), some (.int (((sh i).2.2.getD (u + (2 * k)) 0))), some (.int (((sh i).2.2.getD ((u + (2 * k)) + 1) 0)))]) rfl ?_
          refine x_goto (tgt := 6) dX7_welcomeAll_81 (by decide) ?_
          have e9 : (gsF (sh i).2.2 (sh i).2.1 u (q + 1) k c P) = (gsF (sh i).2.2 (sh i).2.1 u q (k + 1) (c + 1) (gsP P ((sh i).2.2.getD (u + 2 * k) 0) ((sh i).2.2.getD (u + 2 * k + 1) 0))) := by rw [gsF, if_neg (by omega), if_pos (g4.mp (by omega))]
          rw [e9]
          refine x_drop 6 (x_drop 7 ?_)
          exact ih (k + 1) (c + 1) _ s4 (by omega) (F4.at (by omega) k0) (F4.at (by omega) g0) (F4.at (by omega) g1) C4 (hF.tr (Fr.rf.tr (F4.mono (fun i hi => by omega)))) (by omega)
      · refine x_bipush (v := (-12)) dX7_welcomeAll_26 (by decide) ?_
        exact x_iret ⟨Nat.le_refl _, Nat.le_refl _⟩ rfl dX7_welcomeAll_28 ⟨by rw [gsF, if_pos (by omega)], by rw [gsF, if_pos (by omega)]; exact hC, hF⟩
set_option maxHeartbeats 4000000 in
theorem c_welcomeAll {σ : ZS} {tx ik : Int32} (k0 : zg σ 0 = some (.inr (.inr (6, [.ref 1, .ref 6, .ref 11, .ref 16, .ref 22, .ref 28, .ref 31, .int tx, .int ik])))) {rr dn ru : Nat} {D : List Nat} {P : PT4} (hC : CP σ rr dn ru D P) {sh : Nat → SH} {i : Nat} (hi4 : i < 4) (hz40 : (sh i).2.1 ≤ 40) (hl40 : (sh i).2.2.length = 40) (g0 : zg σ (32 + 2 * i) = some (.inr (.inr (5, [.int (sh i).1, .int (nI (sh i).2.1), .ref (33 + 2 * i)])))) (g1 : zg σ (33 + 2 * i) = some (.inl (0, (sh i).2.2))) {u n : Nat} (hu31 : u < 2147483648) (hn7 : n ≤ 7) : Cn 3 M_X7_welcomeAll 0 0 [.ref 0, .ref (32 + 2 * i), .int (nI u), .int (nI n)] σ (fun r9 σ' => r9 = some (.int (gsF (sh i).2.2 (sh i).2.1 u n 0 0 P).1) ∧ CP σ' rr dn ru D (gsF (sh i).2.2 (sh i).2.1 u n 0 0 P).2 ∧ Fr (fun i => 1 ≤ i ∧ i ≤ 5) σ σ') := by
  refine Cn.intro (lv0 := [some (.ref 0), some (.ref (32 + 2 * i)), some (.int (nI u)), some (.int (nI n)), none, none, none, none]) rfl (Nat.le_of_ble_eq_true rfl) rfl (fun d hd => ?_)
  refine x_iconst (v := nI 0) dX7_welcomeAll_0 (by decide) ?_
  refine x_istore dX7_welcomeAll_1 (by decide) rfl ?_
  refine x_lv (lv' := [some (.ref 0), some (.ref (32 + 2 * i)), some (.int (nI u)), some (.int (nI n)), some (.int (nI 0)), none, none, none]) rfl ?_
  refine x_iconst (v := nI 0) dX7_welcomeAll_3 (by decide) ?_
  refine x_istore dX7_welcomeAll_4 (by decide) rfl ?_
  refine x_lv (lv' := [some (.ref 0), some (.ref (32 + 2 * i)), some (.int (nI u)), some (.int (nI n)), some (.int (nI 0)), some (.int (nI 0)), none, none]) rfl ?_
  exact l_welAll hi4 hz40 hl40 hu31 hn7 hd n 0 0 P σ (Nat.le_refl _) k0 g0 g1 hC Fr.rf (by omega)
set_option maxHeartbeats 4000000 in
theorem c_welcomeAll_n {σ : ZS} {tx ik : Int32} (k0 : zg σ 0 = some (.inr (.inr (6, [.ref 1, .ref 6, .ref 11, .ref 16, .ref 22, .ref 28, .ref 31, .int tx, .int ik])))) {rr dn ru : Nat} {D : List Nat} {P : PT4} (hC : CP σ rr dn ru D P) {sh : Nat → SH} {i : Nat} (hi4 : i < 4) (hz40 : (sh i).2.1 ≤ 40) (hl40 : (sh i).2.2.length = 40) (g0 : zg σ (32 + 2 * i) = some (.inr (.inr (5, [.int (sh i).1, .int (nI (sh i).2.1), .ref (33 + 2 * i)])))) (g1 : zg σ (33 + 2 * i) = some (.inl (0, (sh i).2.2))) {u : Int32} (hu : u.toInt < 0) {n : Nat} (hn7 : n ≤ 7) : Cn 3 M_X7_welcomeAll 0 0 [.ref 0, .ref (32 + 2 * i), .int u, .int (nI n)] σ (fun r9 σ' => r9 = some (.int (if n = 0 then nI 0 else -12)) ∧ σ' = σ) := by
  refine Cn.intro (lv0 := [some (.ref 0), some (.ref (32 + 2 * i)), some (.int u), some (.int (nI n)), none, none, none, none]) rfl (Nat.le_of_ble_eq_true rfl) rfl (fun d hd => ?_)
  refine x_iconst (v := nI 0) dX7_welcomeAll_0 (by decide) ?_
  refine x_istore dX7_welcomeAll_1 (by decide) rfl ?_
  refine x_lv (lv' := [some (.ref 0), some (.ref (32 + 2 * i)), some (.int u), some (.int (nI n)), some (.int (nI 0)), none, none, none]) rfl ?_
  refine x_iconst (v := nI 0) dX7_welcomeAll_3 (by decide) ?_
  refine x_istore dX7_welcomeAll_4 (by decide) rfl ?_
  refine x_lv (lv' := [some (.ref 0), some (.ref (32 + 2 * i)), some (.int u), some (.int (nI n)), some (.int (nI 0)), some (.int (nI 0)), none, none]) rfl ?_
  refine x_iload dX7_welcomeAll_6 rfl ?_
  refine x_iload_n dX7_welcomeAll_8 rfl ?_
  refine x_icmpN_ge (tgt := 84) dX7_welcomeAll_9 (by decide) (by omega) (by omega) (fun hv1 => ?_) (fun hv1 => ?_)
  · refine x_iload dX7_welcomeAll_84 rfl ?_
    exact x_iret ⟨Nat.le_refl _, Nat.le_refl _⟩ rfl dX7_welcomeAll_86 ⟨by rw [if_pos (by omega)], rfl⟩
  · refine x_aload_n dX7_welcomeAll_12 rfl ?_
    refine x_iload_n dX7_welcomeAll_13 rfl ?_
    refine x_iconst (v := nI 2) dX7_welcomeAll_14 (by decide) ?_
    refine x_iload dX7_welcomeAll_15 rfl ?_
    refine x_imulN dX7_welcomeAll_17 ?_
    refine x_iconst (v := nI 2) dX7_welcomeAll_18 (by decide) ?_
    refine x_iaddN dX7_welcomeAll_19 ?_
    refine x_callV m_X6_hasItems l_X7_297 (c_hasItems g0 g1 hl40 hz40 (by omega) (p := (u).toInt) (q := (((2 * 0) + 2 : Nat) : Int)) rfl (nI_toInt (by omega))) rfl g0 (by omega) rfl rfl (Nat.le_of_ble_eq_true rfl) ⟨Nat.le_refl _, Nat.le_refl _⟩ dX7_welcomeAll_20 (fun r2 s2 q2 => ?_)
    obtain ⟨rfl, eq2⟩ := q2
    obtain rfl := eq2.symm
    refine x_stk (st' := [.int (bI (decide (0 ≤ (u).toInt ∧ 0 ≤ (((2 * 0) + 2 : Nat) : Int) ∧ (u).toInt + (((2 * 0) + 2 : Nat) : Int) ≤ (((sh i).2.1 : Nat) : Int))))]) rfl ?_
    refine x_ifP_ne (P := 0 ≤ (u).toInt ∧ 0 ≤ (((2 * 0) + 2 : Nat) : Int) ∧ (u).toInt + (((2 * 0) + 2 : Nat) : Int) ≤ (((sh i).2.1 : Nat) : Int)) inferInstance (tgt := 29) dX7_welcomeAll_23 (by decide) (fun hv3 => ?_) (fun hv3 => ?_)
    · exact absurd hv3 (by omega)
    · refine x_bipush (v := (-12)) dX7_welcomeAll_26 (by decide) ?_
      exact x_iret ⟨Nat.le_refl _, Nat.le_refl _⟩ rfl dX7_welcomeAll_28 ⟨by rw [if_neg (by omega)], rfl⟩
set_option maxHeartbeats 4000000 in
theorem c_guests {σ : ZS} {tx ik : Int32} (k0 : zg σ 0 = some (.inr (.inr (6, [.ref 1, .ref 6, .ref 11, .ref 16, .ref 22, .ref 28, .ref 31, .int tx, .int ik])))) {rr dn ru : Nat} {D : List Nat} {P : PT4} (hC : CP σ rr dn ru D P) {sh : Nat → SH} (hS : CSH σ sh) (hG : SHG sh) {i : Nat} (hi4 : i < 4) (hne : ¬ (sh i).1 = -1) {so : Int32} (hso : 0 ≤ so.toInt ∧ so.toInt ≤ 2) (hsoi : (sh i).1 = so) {u n : Nat} (hu31 : u < 2147483648) (hn7 : n ≤ 7) : Cn 4 M_X7_guests 0 0 [.ref 0, .int (nI i), .int so, .int (nI u), .int (nI n)] σ (fun r9 σ' => r9 = some (.int (gsF (sh i).2.2 (sh i).2.1 u n 0 0 P).1) ∧ CP σ' rr dn ru D (gsF (sh i).2.2 (sh i).2.1 u n 0 0 P).2 ∧ Fr (fun i => 1 ≤ i ∧ i ≤ 5) σ σ') := by
  obtain ⟨g31, hS2⟩ := id hS
  obtain ⟨g0, g1⟩ := hS2 i hi4
  obtain ⟨hso9, hz40, hl40⟩ := hG i hi4
  have hne' : ¬ ((sh i).1).toInt = -1 := fun q => hne (Int32.toInt_inj.mp q)
  refine Cn.intro (lv0 := [some (.ref 0), some (.int (nI i)), some (.int so), some (.int (nI u)), some (.int (nI n)), none]) rfl (Nat.le_of_ble_eq_true rfl) rfl (fun d hd => ?_)
  refine x_iload_n dX7_guests_0 rfl ?_
  refine x_callS m_X7_isSheet l_X7_153 (c_isSheetP (p := ((i : Nat) : Int)) (nI_toInt (by omega))) (by omega) rfl rfl (Nat.le_of_ble_eq_true rfl) ⟨Nat.le_refl _, Nat.le_refl _⟩ dX7_guests_1 (fun r1 s1 q1 => ?_)
  obtain ⟨rfl, eq1⟩ := q1
  obtain rfl := eq1.symm
  refine x_stk (st' := [.int (bI (decide (0 ≤ ((i : Nat) : Int) ∧ ((i : Nat) : Int) ≤ 3)))]) rfl ?_
  refine x_ifP_eq (P := 0 ≤ ((i : Nat) : Int) ∧ ((i : Nat) : Int) ≤ 3) inferInstance (tgt := 25) dX7_guests_4 (by decide) (fun hv2 => ?_) (fun hv2 => ?_)
  · exact absurd hv2 (by omega)
  · refine x_iload_n dX7_guests_7 rfl ?_
    refine x_callS m_X7_isSort l_X7_291 (c_isSortP (p := (so).toInt) rfl) (by omega) rfl rfl (Nat.le_of_ble_eq_true rfl) ⟨Nat.le_refl _, Nat.le_refl _⟩ dX7_guests_8 (fun r3 s3 q3 => ?_)
    obtain ⟨rfl, eq3⟩ := q3
    obtain rfl := eq3.symm
    refine x_stk (st' := [.int (bI (decide (0 ≤ (so).toInt ∧ (so).toInt ≤ 2)))]) rfl ?_
    refine x_ifP_eq (P := 0 ≤ (so).toInt ∧ (so).toInt ≤ 2) inferInstance (tgt := 25) dX7_guests_11 (by decide) (fun hv4 => ?_) (fun hv4 => ?_)
    · exact absurd hv4 (by omega)
    · refine x_iload dX7_guests_14 rfl ?_
      refine x_iconst (v := nI 0) dX7_guests_16 (by decide) ?_
      refine x_bipush (v := nI 7) dX7_guests_17 (by decide) ?_
      refine x_callS m_X7_isWithin l_X7_72 (c_within (p := ((n : Nat) : Int)) (q := ((0 : Nat) : Int)) (r := ((7 : Nat) : Int)) (nI_toInt (by omega)) (nI_toInt (by omega)) (nI_toInt (by omega))) (by omega) rfl rfl (Nat.le_of_ble_eq_true rfl) ⟨Nat.le_refl _, Nat.le_refl _⟩ dX7_guests_19 (fun r5 s5 q5 => ?_)
      obtain ⟨rfl, eq5⟩ := q5
      obtain rfl := eq5.symm
      refine x_stk (st' := [.int (bI (decide (((0 : Nat) : Int) ≤ ((n : Nat) : Int) ∧ ((n : Nat) : Int) ≤ ((7 : Nat) : Int))))]) rfl ?_
      refine x_ifP_ne (P := ((0 : Nat) : Int) ≤ ((n : Nat) : Int) ∧ ((n : Nat) : Int) ≤ ((7 : Nat) : Int)) inferInstance (tgt := 28) dX7_guests_22 (by decide) (fun hv6 => ?_) (fun hv6 => ?_)
      · refine x_aload_n dX7_guests_28 rfl ?_
        refine x_get (v := .ref 31) f_X7_45 k0 rfl dX7_guests_29 ?_
        refine x_iload_n dX7_guests_32 rfl ?_
        refine x_aald (Or.inr rfl) g31 rfl (sh_aa hi4) dX7_guests_33 ?_
        refine x_astore dX7_guests_34 (by decide) rfl ?_
        refine x_lv (lv' := [some (.ref 0), some (.int (nI i)), some (.int so), some (.int (nI u)), some (.int (nI n)), some (.ref (32 + 2 * i))]) rfl ?_
        refine x_aload dX7_guests_36 rfl ?_
        refine x_get (v := .int ((sh i).1)) f_X7_179 g0 rfl dX7_guests_38 ?_
        refine x_iconst (v := (-1)) dX7_guests_41 (by decide) ?_
        refine x_icmpT_eq (p := ((sh i).1).toInt) (q := (-1)) (tgt := 57) rfl (by decide) dX7_guests_42 (by decide) (fun hv7 => ?_) (fun hv7 => ?_)
        · exact absurd hv7 (by omega)
        · refine x_aload dX7_guests_45 rfl ?_
          refine x_get (v := .int ((sh i).1)) f_X7_179 g0 rfl dX7_guests_47 ?_
          refine x_iload_n dX7_guests_50 rfl ?_
          refine x_icmpT_eq (p := ((sh i).1).toInt) (q := (so).toInt) (tgt := 57) rfl rfl dX7_guests_51 (by decide) (fun hv8 => ?_) (fun hv8 => ?_)
          · refine x_aload dX7_guests_57 rfl ?_
            refine x_get (v := .int ((sh i).1)) f_X7_179 g0 rfl dX7_guests_59 ?_
            refine x_iconst (v := (-1)) dX7_guests_62 (by decide) ?_
            refine x_icmpT_ne (p := ((sh i).1).toInt) (q := (-1)) (tgt := 71) rfl (by decide) dX7_guests_63 (by decide) (fun hv9 => ?_) (fun hv9 => ?_)
            · refine x_aload_n dX7_guests_71 rfl ?_
              refine x_aload dX7_guests_72 rfl ?_
              refine x_iload_n dX7_guests_74 rfl ?_
              refine x_iload dX7_guests_75 rfl ?_
              refine x_callV m_X7_welcomeAll l_X7_306 (c_welcomeAll k0 hC hi4 hz40 hl40 g0 g1 hu31 hn7) rfl k0 (by omega) rfl rfl (Nat.le_of_ble_eq_true rfl) ⟨Nat.le_refl _, Nat.le_refl _⟩ dX7_guests_77 (fun r10 s10 q10 => ?_)
              obtain ⟨rfl, C10, F10⟩ := q10
              refine x_stk (st' := [.int ((gsF (sh i).2.2 (sh i).2.1 u n 0 0 P).1)]) rfl ?_
              exact x_iret ⟨Nat.le_refl _, Nat.le_refl _⟩ rfl dX7_guests_80 ⟨rfl, C10, F10⟩
            · exact absurd hv9 (by omega)
          · exact absurd (congrArg Int32.toInt hsoi) hv8
      · exact absurd hv6 (by omega)
set_option maxHeartbeats 4000000 in
theorem c_guests_neg {σ : ZS} {tx ik : Int32} (k0 : zg σ 0 = some (.inr (.inr (6, [.ref 1, .ref 6, .ref 11, .ref 16, .ref 22, .ref 28, .ref 31, .int tx, .int ik])))) {rr dn ru : Nat} {D : List Nat} {P : PT4} (hC : CP σ rr dn ru D P) {sh : Nat → SH} (hS : CSH σ sh) (hG : SHG sh) {i : Nat} (hi4 : i < 4) (hne : ¬ (sh i).1 = -1) {so : Int32} (hso : 0 ≤ so.toInt ∧ so.toInt ≤ 2) (hsoi : (sh i).1 = so) {u : Int32} (hu : u.toInt < 0) {n : Nat} (hn7 : n ≤ 7) : Cn 4 M_X7_guests 0 0 [.ref 0, .int (nI i), .int so, .int u, .int (nI n)] σ (fun r9 σ' => r9 = some (.int (if n = 0 then nI 0 else -12)) ∧ σ' = σ) := by
  obtain ⟨g31, hS2⟩ := id hS
  obtain ⟨g0, g1⟩ := hS2 i hi4
  obtain ⟨hso9, hz40, hl40⟩ := hG i hi4
  have hne' : ¬ ((sh i).1).toInt = -1 := fun q => hne (Int32.toInt_inj.mp q)
  refine Cn.intro (lv0 := [some (.ref 0), some (.int (nI i)), some (.int so), some (.int u), some (.int (nI n)), none]) rfl (Nat.le_of_ble_eq_true rfl) rfl (fun d hd => ?_)
  refine x_iload_n dX7_guests_0 rfl ?_
  refine x_callS m_X7_isSheet l_X7_153 (c_isSheetP (p := ((i : Nat) : Int)) (nI_toInt (by omega))) (by omega) rfl rfl (Nat.le_of_ble_eq_true rfl) ⟨Nat.le_refl _, Nat.le_refl _⟩ dX7_guests_1 (fun r1 s1 q1 => ?_)
  obtain ⟨rfl, eq1⟩ := q1
  obtain rfl := eq1.symm
  refine x_stk (st' := [.int (bI (decide (0 ≤ ((i : Nat) : Int) ∧ ((i : Nat) : Int) ≤ 3)))]) rfl ?_
  refine x_ifP_eq (P := 0 ≤ ((i : Nat) : Int) ∧ ((i : Nat) : Int) ≤ 3) inferInstance (tgt := 25) dX7_guests_4 (by decide) (fun hv2 => ?_) (fun hv2 => ?_)
  · exact absurd hv2 (by omega)
  · refine x_iload_n dX7_guests_7 rfl ?_
    refine x_callS m_X7_isSort l_X7_291 (c_isSortP (p := (so).toInt) rfl) (by omega) rfl rfl (Nat.le_of_ble_eq_true rfl) ⟨Nat.le_refl _, Nat.le_refl _⟩ dX7_guests_8 (fun r3 s3 q3 => ?_)
    obtain ⟨rfl, eq3⟩ := q3
    obtain rfl := eq3.symm
    refine x_stk (st' := [.int (bI (decide (0 ≤ (so).toInt ∧ (so).toInt ≤ 2)))]) rfl ?_
    refine x_ifP_eq (P := 0 ≤ (so).toInt ∧ (so).toInt ≤ 2) inferInstance (tgt := 25) dX7_guests_11 (by decide) (fun hv4 => ?_) (fun hv4 => ?_)
    · exact absurd hv4 (by omega)
    · refine x_iload dX7_guests_14 rfl ?_
      refine x_iconst (v := nI 0) dX7_guests_16 (by decide) ?_
      refine x_bipush (v := nI 7) dX7_guests_17 (by decide) ?_
      refine x_callS m_X7_isWithin l_X7_72 (c_within (p := ((n : Nat) : Int)) (q := ((0 : Nat) : Int)) (r := ((7 : Nat) : Int)) (nI_toInt (by omega)) (nI_toInt (by omega)) (nI_toInt (by omega))) (by omega) rfl rfl (Nat.le_of_ble_eq_true rfl) ⟨Nat.le_refl _, Nat.le_refl _⟩ dX7_guests_19 (fun r5 s5 q5 => ?_)
      obtain ⟨rfl, eq5⟩ := q5
      obtain rfl := eq5.symm
      refine x_stk (st' := [.int (bI (decide (((0 : Nat) : Int) ≤ ((n : Nat) : Int) ∧ ((n : Nat) : Int) ≤ ((7 : Nat) : Int))))]) rfl ?_
      refine x_ifP_ne (P := ((0 : Nat) : Int) ≤ ((n : Nat) : Int) ∧ ((n : Nat) : Int) ≤ ((7 : Nat) : Int)) inferInstance (tgt := 28) dX7_guests_22 (by decide) (fun hv6 => ?_) (fun hv6 => ?_)
      · refine x_aload_n dX7_guests_28 rfl ?_
        refine x_get (v := .ref 31) f_X7_45 k0 rfl dX7_guests_29 ?_
        refine x_iload_n dX7_guests_32 rfl ?_
        refine x_aald (Or.inr rfl) g31 rfl (sh_aa hi4) dX7_guests_33 ?_
        refine x_astore dX7_guests_34 (by decide) rfl ?_
        refine x_lv (lv' := [some (.ref 0), some (.int (nI i)), some (.int so), some (.int u), some (.int (nI n)), some (.ref (32 + 2 * i))]) rfl ?_
        refine x_aload dX7_guests_36 rfl ?_
        refine x_get (v := .int ((sh i).1)) f_X7_179 g0 rfl dX7_guests_38 ?_
        refine x_iconst (v := (-1)) dX7_guests_41 (by decide) ?_
        refine x_icmpT_eq (p := ((sh i).1).toInt) (q := (-1)) (tgt := 57) rfl (by decide) dX7_guests_42 (by decide) (fun hv7 => ?_) (fun hv7 => ?_)
        · exact absurd hv7 (by omega)
        · refine x_aload dX7_guests_45 rfl ?_
          refine x_get (v := .int ((sh i).1)) f_X7_179 g0 rfl dX7_guests_47 ?_
          refine x_iload_n dX7_guests_50 rfl ?_
          refine x_icmpT_eq (p := ((sh i).1).toInt) (q := (so).toInt) (tgt := 57) rfl rfl dX7_guests_51 (by decide) (fun hv8 => ?_) (fun hv8 => ?_)
          · refine x_aload dX7_guests_57 rfl ?_
            refine x_get (v := .int ((sh i).1)) f_X7_179 g0 rfl dX7_guests_59 ?_
            refine x_iconst (v := (-1)) dX7_guests_62 (by decide) ?_
            refine x_icmpT_ne (p := ((sh i).1).toInt) (q := (-1)) (tgt := 71) rfl (by decide) dX7_guests_63 (by decide) (fun hv9 => ?_) (fun hv9 => ?_)
            · refine x_aload_n dX7_guests_71 rfl ?_
              refine x_aload dX7_guests_72 rfl ?_
              refine x_iload_n dX7_guests_74 rfl ?_
              refine x_iload dX7_guests_75 rfl ?_
              refine x_callV m_X7_welcomeAll l_X7_306 (c_welcomeAll_n k0 hC hi4 hz40 hl40 g0 g1 hu hn7) rfl k0 (by omega) rfl rfl (Nat.le_of_ble_eq_true rfl) ⟨Nat.le_refl _, Nat.le_refl _⟩ dX7_guests_77 (fun r10 s10 q10 => ?_)
              obtain ⟨rfl, eq10⟩ := q10
              obtain rfl := eq10.symm
              refine x_stk (st' := [.int ((if n = 0 then nI 0 else -12))]) rfl ?_
              exact x_iret ⟨Nat.le_refl _, Nat.le_refl _⟩ rfl dX7_guests_80 ⟨rfl, rfl⟩
            · exact absurd hv9 (by omega)
          · exact absurd (congrArg Int32.toInt hsoi) hv8
      · exact absurd hv6 (by omega)
set_option maxHeartbeats 4000000 in
theorem c_guests_b1 {σ : ZS} {tx ik : Int32} (k0 : zg σ 0 = some (.inr (.inr (6, [.ref 1, .ref 6, .ref 11, .ref 16, .ref 22, .ref 28, .ref 31, .int tx, .int ik])))) {x so u n : Int32} (hb : ¬ (0 ≤ x.toInt ∧ x.toInt ≤ 3) ∨ ¬ (0 ≤ so.toInt ∧ so.toInt ≤ 2) ∨ ¬ (0 ≤ n.toInt ∧ n.toInt ≤ 7)) : Cn 4 M_X7_guests 0 0 [.ref 0, .int x, .int so, .int u, .int n] σ (fun r9 σ' => r9 = some (.int (-2)) ∧ σ' = σ) := by
  refine Cn.intro (lv0 := [some (.ref 0), some (.int x), some (.int so), some (.int u), some (.int n), none]) rfl (Nat.le_of_ble_eq_true rfl) rfl (fun d hd => ?_)
  refine x_iload_n dX7_guests_0 rfl ?_
  refine x_callS m_X7_isSheet l_X7_153 (c_isSheetP (p := (x).toInt) rfl) (by omega) rfl rfl (Nat.le_of_ble_eq_true rfl) ⟨Nat.le_refl _, Nat.le_refl _⟩ dX7_guests_1 (fun r1 s1 q1 => ?_)
  obtain ⟨rfl, eq1⟩ := q1
  obtain rfl := eq1.symm
  refine x_stk (st' := [.int (bI (decide (0 ≤ (x).toInt ∧ (x).toInt ≤ 3)))]) rfl ?_
  refine x_ifP_eq (P := 0 ≤ (x).toInt ∧ (x).toInt ≤ 3) inferInstance (tgt := 25) dX7_guests_4 (by decide) (fun hv2 => ?_) (fun hv2 => ?_)
  · refine x_bipush (v := (-2)) dX7_guests_25 (by decide) ?_
    exact x_iret ⟨Nat.le_refl _, Nat.le_refl _⟩ rfl dX7_guests_27 ⟨rfl, rfl⟩
  · refine x_iload_n dX7_guests_7 rfl ?_
    refine x_callS m_X7_isSort l_X7_291 (c_isSortP (p := (so).toInt) rfl) (by omega) rfl rfl (Nat.le_of_ble_eq_true rfl) ⟨Nat.le_refl _, Nat.le_refl _⟩ dX7_guests_8 (fun r3 s3 q3 => ?_)
    obtain ⟨rfl, eq3⟩ := q3
    obtain rfl := eq3.symm
    refine x_stk (st' := [.int (bI (decide (0 ≤ (so).toInt ∧ (so).toInt ≤ 2)))]) rfl ?_
    refine x_ifP_eq (P := 0 ≤ (so).toInt ∧ (so).toInt ≤ 2) inferInstance (tgt := 25) dX7_guests_11 (by decide) (fun hv4 => ?_) (fun hv4 => ?_)
    · refine x_bipush (v := (-2)) dX7_guests_25 (by decide) ?_
      exact x_iret ⟨Nat.le_refl _, Nat.le_refl _⟩ rfl dX7_guests_27 ⟨rfl, rfl⟩
    · refine x_iload dX7_guests_14 rfl ?_
      refine x_iconst (v := nI 0) dX7_guests_16 (by decide) ?_
      refine x_bipush (v := nI 7) dX7_guests_17 (by decide) ?_
      refine x_callS m_X7_isWithin l_X7_72 (c_within (p := (n).toInt) (q := ((0 : Nat) : Int)) (r := ((7 : Nat) : Int)) rfl (nI_toInt (by omega)) (nI_toInt (by omega))) (by omega) rfl rfl (Nat.le_of_ble_eq_true rfl) ⟨Nat.le_refl _, Nat.le_refl _⟩ dX7_guests_19 (fun r5 s5 q5 => ?_)
      obtain ⟨rfl, eq5⟩ := q5
      obtain rfl := eq5.symm
      refine x_stk (st' := [.int (bI (decide (((0 : Nat) : Int) ≤ (n).toInt ∧ (n).toInt ≤ ((7 : Nat) : Int))))]) rfl ?_
      refine x_ifP_ne (P := ((0 : Nat) : Int) ≤ (n).toInt ∧ (n).toInt ≤ ((7 : Nat) : Int)) inferInstance (tgt := 28) dX7_guests_22 (by decide) (fun hv6 => ?_) (fun hv6 => ?_)
      · exact absurd hv6 (by omega)
      · refine x_bipush (v := (-2)) dX7_guests_25 (by decide) ?_
        exact x_iret ⟨Nat.le_refl _, Nat.le_refl _⟩ rfl dX7_guests_27 ⟨rfl, rfl⟩
set_option maxHeartbeats 4000000 in
theorem c_guests_b2 {σ : ZS} {tx ik : Int32} (k0 : zg σ 0 = some (.inr (.inr (6, [.ref 1, .ref 6, .ref 11, .ref 16, .ref 22, .ref 28, .ref 31, .int tx, .int ik])))) {rr dn ru : Nat} {D : List Nat} {P : PT4} (hC : CP σ rr dn ru D P) {sh : Nat → SH} (hS : CSH σ sh) (hG : SHG sh) {i : Nat} (hi4 : i < 4) (hne : ¬ (sh i).1 = -1) {so : Int32} (hso : 0 ≤ so.toInt ∧ so.toInt ≤ 2) (hsoi : ¬ (sh i).1 = so) {u n : Int32} (hn : 0 ≤ n.toInt ∧ n.toInt ≤ 7) : Cn 4 M_X7_guests 0 0 [.ref 0, .int (nI i), .int so, .int u, .int n] σ (fun r9 σ' => r9 = some (.int (-13)) ∧ σ' = σ) := by
  obtain ⟨g31, hS2⟩ := id hS
  obtain ⟨g0, g1⟩ := hS2 i hi4
  obtain ⟨hso9, hz40, hl40⟩ := hG i hi4
  have hne' : ¬ ((sh i).1).toInt = -1 := fun q => hne (Int32.toInt_inj.mp q)
  refine Cn.intro (lv0 := [some (.ref 0), some (.int (nI i)), some (.int so), some (.int u), some (.int n), none]) rfl (Nat.le_of_ble_eq_true rfl) rfl (fun d hd => ?_)
  refine x_iload_n dX7_guests_0 rfl ?_
  refine x_callS m_X7_isSheet l_X7_153 (c_isSheetP (p := ((i : Nat) : Int)) (nI_toInt (by omega))) (by omega) rfl rfl (Nat.le_of_ble_eq_true rfl) ⟨Nat.le_refl _, Nat.le_refl _⟩ dX7_guests_1 (fun r1 s1 q1 => ?_)
  obtain ⟨rfl, eq1⟩ := q1
  obtain rfl := eq1.symm
  refine x_stk (st' := [.int (bI (decide (0 ≤ ((i : Nat) : Int) ∧ ((i : Nat) : Int) ≤ 3)))]) rfl ?_
  refine x_ifP_eq (P := 0 ≤ ((i : Nat) : Int) ∧ ((i : Nat) : Int) ≤ 3) inferInstance (tgt := 25) dX7_guests_4 (by decide) (fun hv2 => ?_) (fun hv2 => ?_)
  · exact absurd hv2 (by omega)
  · refine x_iload_n dX7_guests_7 rfl ?_
    refine x_callS m_X7_isSort l_X7_291 (c_isSortP (p := (so).toInt) rfl) (by omega) rfl rfl (Nat.le_of_ble_eq_true rfl) ⟨Nat.le_refl _, Nat.le_refl _⟩ dX7_guests_8 (fun r3 s3 q3 => ?_)
    obtain ⟨rfl, eq3⟩ := q3
    obtain rfl := eq3.symm
    refine x_stk (st' := [.int (bI (decide (0 ≤ (so).toInt ∧ (so).toInt ≤ 2)))]) rfl ?_
    refine x_ifP_eq (P := 0 ≤ (so).toInt ∧ (so).toInt ≤ 2) inferInstance (tgt := 25) dX7_guests_11 (by decide) (fun hv4 => ?_) (fun hv4 => ?_)
    · exact absurd hv4 (by omega)
    · refine x_iload dX7_guests_14 rfl ?_
      refine x_iconst (v := nI 0) dX7_guests_16 (by decide) ?_
      refine x_bipush (v := nI 7) dX7_guests_17 (by decide) ?_
      refine x_callS m_X7_isWithin l_X7_72 (c_within (p := (n).toInt) (q := ((0 : Nat) : Int)) (r := ((7 : Nat) : Int)) rfl (nI_toInt (by omega)) (nI_toInt (by omega))) (by omega) rfl rfl (Nat.le_of_ble_eq_true rfl) ⟨Nat.le_refl _, Nat.le_refl _⟩ dX7_guests_19 (fun r5 s5 q5 => ?_)
      obtain ⟨rfl, eq5⟩ := q5
      obtain rfl := eq5.symm
      refine x_stk (st' := [.int (bI (decide (((0 : Nat) : Int) ≤ (n).toInt ∧ (n).toInt ≤ ((7 : Nat) : Int))))]) rfl ?_
      refine x_ifP_ne (P := ((0 : Nat) : Int) ≤ (n).toInt ∧ (n).toInt ≤ ((7 : Nat) : Int)) inferInstance (tgt := 28) dX7_guests_22 (by decide) (fun hv6 => ?_) (fun hv6 => ?_)
      · refine x_aload_n dX7_guests_28 rfl ?_
        refine x_get (v := .ref 31) f_X7_45 k0 rfl dX7_guests_29 ?_
        refine x_iload_n dX7_guests_32 rfl ?_
        refine x_aald (Or.inr rfl) g31 rfl (sh_aa hi4) dX7_guests_33 ?_
        refine x_astore dX7_guests_34 (by decide) rfl ?_
        refine x_lv (lv' := [some (.ref 0), some (.int (nI i)), some (.int so), some (.int u), some (.int n), some (.ref (32 + 2 * i))]) rfl ?_
        refine x_aload dX7_guests_36 rfl ?_
        refine x_get (v := .int ((sh i).1)) f_X7_179 g0 rfl dX7_guests_38 ?_
        refine x_iconst (v := (-1)) dX7_guests_41 (by decide) ?_
        refine x_icmpT_eq (p := ((sh i).1).toInt) (q := (-1)) (tgt := 57) rfl (by decide) dX7_guests_42 (by decide) (fun hv7 => ?_) (fun hv7 => ?_)
        · exact absurd hv7 (by omega)
        · refine x_aload dX7_guests_45 rfl ?_
          refine x_get (v := .int ((sh i).1)) f_X7_179 g0 rfl dX7_guests_47 ?_
          refine x_iload_n dX7_guests_50 rfl ?_
          refine x_icmpT_eq (p := ((sh i).1).toInt) (q := (so).toInt) (tgt := 57) rfl rfl dX7_guests_51 (by decide) (fun hv8 => ?_) (fun hv8 => ?_)
          · exact absurd (Int32.toInt_inj.mp hv8) hsoi
          · refine x_bipush (v := (-13)) dX7_guests_54 (by decide) ?_
            exact x_iret ⟨Nat.le_refl _, Nat.le_refl _⟩ rfl dX7_guests_56 ⟨rfl, rfl⟩
      · exact absurd hv6 (by omega)
set_option maxHeartbeats 4000000 in
theorem c_guests_b3 {σ : ZS} {tx ik : Int32} (k0 : zg σ 0 = some (.inr (.inr (6, [.ref 1, .ref 6, .ref 11, .ref 16, .ref 22, .ref 28, .ref 31, .int tx, .int ik])))) {rr dn ru : Nat} {D : List Nat} {P : PT4} (hC : CP σ rr dn ru D P) {sh : Nat → SH} (hS : CSH σ sh) (hG : SHG sh) {i : Nat} (hi4 : i < 4) (hb : (sh i).1 = -1) {so : Int32} (hso : 0 ≤ so.toInt ∧ so.toInt ≤ 2) {u n : Int32} (hn : 0 ≤ n.toInt ∧ n.toInt ≤ 7) : Cn 4 M_X7_guests 0 0 [.ref 0, .int (nI i), .int so, .int u, .int n] σ (fun r9 σ' => r9 = some (.int (-11)) ∧ σ' = σ) := by
  obtain ⟨g31, hS2⟩ := id hS
  obtain ⟨g0, g1⟩ := hS2 i hi4
  obtain ⟨hso9, hz40, hl40⟩ := hG i hi4
  have hb' : ((sh i).1).toInt = -1 := by rw [hb]; decide
  refine Cn.intro (lv0 := [some (.ref 0), some (.int (nI i)), some (.int so), some (.int u), some (.int n), none]) rfl (Nat.le_of_ble_eq_true rfl) rfl (fun d hd => ?_)
  refine x_iload_n dX7_guests_0 rfl ?_
  refine x_callS m_X7_isSheet l_X7_153 (c_isSheetP (p := ((i : Nat) : Int)) (nI_toInt (by omega))) (by omega) rfl rfl (Nat.le_of_ble_eq_true rfl) ⟨Nat.le_refl _, Nat.le_refl _⟩ dX7_guests_1 (fun r1 s1 q1 => ?_)
  obtain ⟨rfl, eq1⟩ := q1
  obtain rfl := eq1.symm
  refine x_stk (st' := [.int (bI (decide (0 ≤ ((i : Nat) : Int) ∧ ((i : Nat) : Int) ≤ 3)))]) rfl ?_
  refine x_ifP_eq (P := 0 ≤ ((i : Nat) : Int) ∧ ((i : Nat) : Int) ≤ 3) inferInstance (tgt := 25) dX7_guests_4 (by decide) (fun hv2 => ?_) (fun hv2 => ?_)
  · exact absurd hv2 (by omega)
  · refine x_iload_n dX7_guests_7 rfl ?_
    refine x_callS m_X7_isSort l_X7_291 (c_isSortP (p := (so).toInt) rfl) (by omega) rfl rfl (Nat.le_of_ble_eq_true rfl) ⟨Nat.le_refl _, Nat.le_refl _⟩ dX7_guests_8 (fun r3 s3 q3 => ?_)
    obtain ⟨rfl, eq3⟩ := q3
    obtain rfl := eq3.symm
    refine x_stk (st' := [.int (bI (decide (0 ≤ (so).toInt ∧ (so).toInt ≤ 2)))]) rfl ?_
    refine x_ifP_eq (P := 0 ≤ (so).toInt ∧ (so).toInt ≤ 2) inferInstance (tgt := 25) dX7_guests_11 (by decide) (fun hv4 => ?_) (fun hv4 => ?_)
    · exact absurd hv4 (by omega)
    · refine x_iload dX7_guests_14 rfl ?_
      refine x_iconst (v := nI 0) dX7_guests_16 (by decide) ?_
      refine x_bipush (v := nI 7) dX7_guests_17 (by decide) ?_
      refine x_callS m_X7_isWithin l_X7_72 (c_within (p := (n).toInt) (q := ((0 : Nat) : Int)) (r := ((7 : Nat) : Int)) rfl (nI_toInt (by omega)) (nI_toInt (by omega))) (by omega) rfl rfl (Nat.le_of_ble_eq_true rfl) ⟨Nat.le_refl _, Nat.le_refl _⟩ dX7_guests_19 (fun r5 s5 q5 => ?_)
      obtain ⟨rfl, eq5⟩ := q5
      obtain rfl := eq5.symm
      refine x_stk (st' := [.int (bI (decide (((0 : Nat) : Int) ≤ (n).toInt ∧ (n).toInt ≤ ((7 : Nat) : Int))))]) rfl ?_
      refine x_ifP_ne (P := ((0 : Nat) : Int) ≤ (n).toInt ∧ (n).toInt ≤ ((7 : Nat) : Int)) inferInstance (tgt := 28) dX7_guests_22 (by decide) (fun hv6 => ?_) (fun hv6 => ?_)
      · refine x_aload_n dX7_guests_28 rfl ?_
        refine x_get (v := .ref 31) f_X7_45 k0 rfl dX7_guests_29 ?_
        refine x_iload_n dX7_guests_32 rfl ?_
        refine x_aald (Or.inr rfl) g31 rfl (sh_aa hi4) dX7_guests_33 ?_
        refine x_astore dX7_guests_34 (by decide) rfl ?_
        refine x_lv (lv' := [some (.ref 0), some (.int (nI i)), some (.int so), some (.int u), some (.int n), some (.ref (32 + 2 * i))]) rfl ?_
        refine x_aload dX7_guests_36 rfl ?_
        refine x_get (v := .int ((sh i).1)) f_X7_179 g0 rfl dX7_guests_38 ?_
        refine x_iconst (v := (-1)) dX7_guests_41 (by decide) ?_
        refine x_icmpT_eq (p := ((sh i).1).toInt) (q := (-1)) (tgt := 57) rfl (by decide) dX7_guests_42 (by decide) (fun hv7 => ?_) (fun hv7 => ?_)
        · refine x_aload dX7_guests_57 rfl ?_
          refine x_get (v := .int ((sh i).1)) f_X7_179 g0 rfl dX7_guests_59 ?_
          refine x_iconst (v := (-1)) dX7_guests_62 (by decide) ?_
          refine x_icmpT_ne (p := ((sh i).1).toInt) (q := (-1)) (tgt := 71) rfl (by decide) dX7_guests_63 (by decide) (fun hv8 => ?_) (fun hv8 => ?_)
          · exact absurd hv8 (by omega)
          · refine x_bipush (v := (-11)) dX7_guests_66 (by decide) ?_
            refine x_goto (tgt := 80) dX7_guests_68 (by decide) ?_
            exact x_iret ⟨Nat.le_refl _, Nat.le_refl _⟩ rfl dX7_guests_80 ⟨rfl, rfl⟩
        · exact absurd hv7 (by omega)
      · exact absurd hv6 (by omega)
