/-! a text that was read: steps on a stack -/
def turnE (t : Nat) (v : Int32) : Int32 := if t = 4 then -v else if v = 0 then nI 1 else nI 0
def joinE (t : Nat) (a b : Int32) : Int32 := if t = 8 then (if ¬ a = 0 ∨ ¬ b = 0 then nI 1 else nI 0) else if t = 9 then (if ¬ a = 0 ∧ ¬ b = 0 then nI 1 else nI 0) else if t = 60 then (if a < b then nI 1 else nI 0) else if t = 61 then (if a = b then nI 1 else nI 0) else if t = 43 then a + b else if t = 45 then a - b else a * b
def stepE (F : List Int32) (stk : List Int32) (s : Nat) : List Int32 :=
  if s < 20000 then (if s < 10000 then nI s else F.getD (s - 10000) 0) :: stk
  else if s = 20004 ∨ s = 20010 then (match stk with | v :: r => turnE (s - 20000) v :: r | [] => [])
  else (match stk with | b :: a :: r => joinE (s - 20000) a b :: r | x => x)
def runE (F : List Int32) (S : List Nat) : List Int32 := S.foldl (stepE F) []
set_option maxHeartbeats 4000000 in
theorem c_turned {σ : ZS} {t : Nat} (ht : t < 100) (v : Int32) : Cn 0 M_X4_turned 0 0 [.int (nI t), .int v] σ (fun r σ' => r = some (.int (turnE t v)) ∧ σ' = σ) := by
  refine Cn.intro (lv0 := [some (.int (nI t)), some (.int v)]) rfl (Nat.le_of_ble_eq_true rfl) rfl (fun d hd => ?_)
  refine x_iload_n dX4_turned_0 rfl ?_
  refine x_iconst (v := nI 4) dX4_turned_1 (by decide) ?_
  refine x_icmpN_ne (tgt := 8) dX4_turned_2 (by decide) (by omega) (by omega) (fun h1 => ?_) (fun h1 => ?_)
  · refine x_iload_n dX4_turned_8 rfl ?_
    refine x_if_ne (tgt := 16) dX4_turned_9 (by decide) (fun h2 => ?_) (fun h2 => ?_)
    · refine x_iconst (v := nI 0) dX4_turned_16 (by decide) ?_
      exact x_iret ⟨Nat.le_refl _, Nat.le_refl _⟩ rfl dX4_turned_17 ⟨by rw [turnE, if_neg h1, if_neg h2], rfl⟩
    · refine x_iconst (v := nI 1) dX4_turned_12 (by decide) ?_
      refine x_goto (tgt := 17) dX4_turned_13 (by decide) ?_
      exact x_iret ⟨Nat.le_refl _, Nat.le_refl _⟩ rfl dX4_turned_17 ⟨by rw [turnE, if_neg h1, if_pos h2], rfl⟩
  · refine x_iload_n dX4_turned_5 rfl ?_
    refine x_ineg dX4_turned_6 ?_
    exact x_iret ⟨Nat.le_refl _, Nat.le_refl _⟩ rfl dX4_turned_7 ⟨by rw [turnE, if_pos h1], rfl⟩
set_option maxHeartbeats 4000000 in
theorem c_joined {σ : ZS} {t : Nat} (ht : t < 100) (a b : Int32) : Cn 0 M_X4_joined 0 0 [.int (nI t), .int a, .int b] σ (fun r σ' => r = some (.int (joinE t a b)) ∧ σ' = σ) := by
  refine Cn.intro (lv0 := [some (.int (nI t)), some (.int a), some (.int b)]) rfl (Nat.le_of_ble_eq_true rfl) rfl (fun d hd => ?_)
  refine x_iload_n dX4_joined_0 rfl ?_
  rcases (show t = 8 ∨ t = 9 ∨ t = 43 ∨ t = 45 ∨ t = 60 ∨ t = 61 ∨ (t ≠ 8 ∧ t ≠ 9 ∧ t ≠ 43 ∧ t ≠ 45 ∧ t ≠ 60 ∧ t ≠ 61) by omega) with rfl | rfl | rfl | rfl | rfl | rfl | h1
  · refine x_lookup (off := 59) (tgt := 60) dX4_joined_1 (by decide) (by decide) (by decide) ?_
    refine x_iload_n dX4_joined_60 rfl ?_
    refine x_if_ne (tgt := 68) dX4_joined_61 (by decide) (fun h2 => ?_) (fun h2 => ?_)
    · refine x_iconst (v := nI 1) dX4_joined_68 (by decide) ?_
      refine x_goto (tgt := 73) dX4_joined_69 (by decide) ?_
      exact x_iret ⟨Nat.le_refl _, Nat.le_refl _⟩ rfl dX4_joined_73 ⟨by simp_all [joinE], rfl⟩
    · refine x_iload_n dX4_joined_64 rfl ?_
      refine x_if_eq (tgt := 72) dX4_joined_65 (by decide) (fun h3 => ?_) (fun h3 => ?_)
      · refine x_iconst (v := nI 0) dX4_joined_72 (by decide) ?_
        exact x_iret ⟨Nat.le_refl _, Nat.le_refl _⟩ rfl dX4_joined_73 ⟨by simp_all [joinE], rfl⟩
      · refine x_iconst (v := nI 1) dX4_joined_68 (by decide) ?_
        refine x_goto (tgt := 73) dX4_joined_69 (by decide) ?_
        exact x_iret ⟨Nat.le_refl _, Nat.le_refl _⟩ rfl dX4_joined_73 ⟨by simp_all [joinE], rfl⟩
  · refine x_lookup (off := 73) (tgt := 74) dX4_joined_1 (by decide) (by decide) (by decide) ?_
    refine x_iload_n dX4_joined_74 rfl ?_
    refine x_if_eq (tgt := 86) dX4_joined_75 (by decide) (fun h4 => ?_) (fun h4 => ?_)
    · refine x_iconst (v := nI 0) dX4_joined_86 (by decide) ?_
      exact x_iret ⟨Nat.le_refl _, Nat.le_refl _⟩ rfl dX4_joined_87 ⟨by simp_all [joinE], rfl⟩
    · refine x_iload_n dX4_joined_78 rfl ?_
      refine x_if_eq (tgt := 86) dX4_joined_79 (by decide) (fun h5 => ?_) (fun h5 => ?_)
      · refine x_iconst (v := nI 0) dX4_joined_86 (by decide) ?_
        exact x_iret ⟨Nat.le_refl _, Nat.le_refl _⟩ rfl dX4_joined_87 ⟨by simp_all [joinE], rfl⟩
      · refine x_iconst (v := nI 1) dX4_joined_82 (by decide) ?_
        refine x_goto (tgt := 87) dX4_joined_83 (by decide) ?_
        exact x_iret ⟨Nat.le_refl _, Nat.le_refl _⟩ rfl dX4_joined_87 ⟨by simp_all [joinE], rfl⟩
  · refine x_lookup (off := 109) (tgt := 110) dX4_joined_1 (by decide) (by decide) (by decide) ?_
    refine x_iload_n dX4_joined_110 rfl ?_
    refine x_iload_n dX4_joined_111 rfl ?_
    refine x_iadd dX4_joined_112 ?_
    exact x_iret ⟨Nat.le_refl _, Nat.le_refl _⟩ rfl dX4_joined_113 ⟨by simp_all [joinE], rfl⟩
  · refine x_lookup (off := 113) (tgt := 114) dX4_joined_1 (by decide) (by decide) (by decide) ?_
    refine x_iload_n dX4_joined_114 rfl ?_
    refine x_iload_n dX4_joined_115 rfl ?_
    refine x_isub dX4_joined_116 ?_
    exact x_iret ⟨Nat.le_refl _, Nat.le_refl _⟩ rfl dX4_joined_117 ⟨by simp_all [joinE], rfl⟩
  · refine x_lookup (off := 87) (tgt := 88) dX4_joined_1 (by decide) (by decide) (by decide) ?_
    refine x_iload_n dX4_joined_88 rfl ?_
    refine x_iload_n dX4_joined_89 rfl ?_
    refine x_icmp_ge (tgt := 97) dX4_joined_90 (by decide) (fun h6 => ?_) (fun h6 => ?_)
    · refine x_iconst (v := nI 0) dX4_joined_97 (by decide) ?_
      exact x_iret ⟨Nat.le_refl _, Nat.le_refl _⟩ rfl dX4_joined_98 ⟨by simp [joinE, Int32.not_lt.mpr h6], rfl⟩
    · refine x_iconst (v := nI 1) dX4_joined_93 (by decide) ?_
      refine x_goto (tgt := 98) dX4_joined_94 (by decide) ?_
      exact x_iret ⟨Nat.le_refl _, Nat.le_refl _⟩ rfl dX4_joined_98 ⟨by simp [joinE, Int32.not_le.mp h6], rfl⟩
  · refine x_lookup (off := 98) (tgt := 99) dX4_joined_1 (by decide) (by decide) (by decide) ?_
    refine x_iload_n dX4_joined_99 rfl ?_
    refine x_iload_n dX4_joined_100 rfl ?_
    refine x_icmp_ne (tgt := 108) dX4_joined_101 (by decide) (fun h7 => ?_) (fun h7 => ?_)
    · refine x_iconst (v := nI 0) dX4_joined_108 (by decide) ?_
      exact x_iret ⟨Nat.le_refl _, Nat.le_refl _⟩ rfl dX4_joined_109 ⟨by simp_all [joinE], rfl⟩
    · refine x_iconst (v := nI 1) dX4_joined_104 (by decide) ?_
      refine x_goto (tgt := 109) dX4_joined_105 (by decide) ?_
      exact x_iret ⟨Nat.le_refl _, Nat.le_refl _⟩ rfl dX4_joined_109 ⟨by simp_all [joinE], rfl⟩
  · refine x_lookup (off := 117) (tgt := 118) dX4_joined_1 (by decide) (by show Op.lookupswitch.offset [(8, 59), (9, 73), (43, 109), (45, 113), (60, 87), (61, 98)] 117 (nI t).toInt = 117; rw [lv_osw (k := nI 8) (fun q => absurd ((nI_eq (by omega) (by omega)).mp q) (by omega)) (by decide)]; rw [lv_osw (k := nI 9) (fun q => absurd ((nI_eq (by omega) (by omega)).mp q) (by omega)) (by decide)]; rw [lv_osw (k := nI 43) (fun q => absurd ((nI_eq (by omega) (by omega)).mp q) (by omega)) (by decide)]; rw [lv_osw (k := nI 45) (fun q => absurd ((nI_eq (by omega) (by omega)).mp q) (by omega)) (by decide)]; rw [lv_osw (k := nI 60) (fun q => absurd ((nI_eq (by omega) (by omega)).mp q) (by omega)) (by decide)]; rw [lv_osw (k := nI 61) (fun q => absurd ((nI_eq (by omega) (by omega)).mp q) (by omega)) (by decide)]; rfl) (by decide) ?_
    refine x_iload_n dX4_joined_118 rfl ?_
    refine x_iload_n dX4_joined_119 rfl ?_
    refine x_imul dX4_joined_120 ?_
    exact x_iret ⟨Nat.le_refl _, Nat.le_refl _⟩ rfl dX4_joined_121 ⟨by simp_all [joinE], rfl⟩
def segE (S : List Nat) (fr j : Nat) : List Nat := (S.drop fr).take j
theorem segE_succ {S : List Nat} {fr j : Nat} (h : fr + j < S.length) : segE S fr (j + 1) = segE S fr j ++ [S.getD (fr + j) 0] := by
  rw [segE, segE, List.take_add_one, List.getElem?_drop, List.getD_eq_getElem?_getD, List.getElem?_eq_getElem h]
  rfl
theorem runE_succ {F : List Int32} {S : List Nat} {fr j : Nat} (h : fr + j < S.length) : runE F (segE S fr (j + 1)) = stepE F (runE F (segE S fr j)) (S.getD (fr + j) 0) := by
  rw [segE_succ h, runE, List.foldl_append]
  rfl
def okSt (s : Nat) : Prop := s < 10006 ∨ (20000 ≤ s ∧ s ≤ 20061)
theorem stk_push {stk J : List Int32} {v : Int32} {Ks : List Int32} (h : Ks = stk.reverse ++ J) (hl : stk.length < Ks.length) : ∃ J' : List Int32, Ks.set stk.length v = (v :: stk).reverse ++ J' := by
  subst h
  cases J with
  | nil => simp at hl
  | cons a J => exact ⟨J, by rw [List.set_append_right _ _ (by simp)]; simp⟩
theorem stk_top {r J : List Int32} {v : Int32} {Ks : List Int32} (h : Ks = (v :: r).reverse ++ J) : Ks.getD r.length 0 = v := by
  subst h
  rw [List.getD_eq_getElem?_getD]
  simp
theorem stk_set {r J : List Int32} {v w : Int32} {Ks : List Int32} (h : Ks = (v :: r).reverse ++ J) : Ks.set r.length w = (w :: r).reverse ++ J := by
  subst h
  simp
theorem stk_pop {r J : List Int32} {v : Int32} {Ks : List Int32} (h : Ks = (v :: r).reverse ++ J) : Ks = r.reverse ++ (v :: J) := by
  subst h
  simp
/-- one rule: its object, steps, stack -/
def RuAt (σ : ZS) (r s k : Nat) (S : List Nat) (lf jf : Nat) : Prop := zg σ r = some (.inr (.inr (3, [.ref s, .int (nI lf), .int (nI jf), .ref k]))) ∧ zg σ s = some (.inl (0, S.map nI)) ∧ S.length ≤ 160 ∧ lf ≤ jf ∧ jf ≤ S.length ∧ (∀ i, i < S.length → okSt (S.getD i 0)) ∧ k ≠ r ∧ k ≠ s
