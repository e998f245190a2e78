/-! rows over numbers written nI n -/
section NRows
variable {M : MD} {d mc ms kc ks pc : Nat} {Q : Option Value → ZS → Prop} {lv : List (Option Value)} {st : List Value} {σ : ZS} {a b : Nat} {off : Int} {tgt : Nat}
theorem x_stk {st' : List Value} (h : st = st') (k : X M d mc ms Q kc ks pc lv st' σ) : X M d mc ms Q kc ks pc lv st σ := h ▸ k
theorem x_iaddN (hd : decode M.2.1 pc = .ok (.iadd, 1)) (k : X M d mc ms Q kc ks (pc + 1) lv (.int (nI (a + b)) :: st) σ) : X M d mc ms Q kc ks pc lv (.int (nI b) :: .int (nI a) :: st) σ :=
  x_iadd hd (by rw [nI_add]; exact k)
theorem x_imulN (hd : decode M.2.1 pc = .ok (.imul, 1)) (k : X M d mc ms Q kc ks (pc + 1) lv (.int (nI (a * b)) :: st) σ) : X M d mc ms Q kc ks pc lv (.int (nI b) :: .int (nI a) :: st) σ :=
  x_imul hd (by rw [pk_mul]; exact k)
theorem x_isubN (h : b ≤ a) (hd : decode M.2.1 pc = .ok (.isub, 1)) (k : X M d mc ms Q kc ks (pc + 1) lv (.int (nI (a - b)) :: st) σ) : X M d mc ms Q kc ks pc lv (.int (nI b) :: .int (nI a) :: st) σ :=
  x_isub hd (by rw [pk_sub h]; exact k)
theorem x_idivN (ha : a < 2147483648) (h0 : 0 < b) (hb : b < 2147483648) (hd : decode M.2.1 pc = .ok (.idiv, 1)) (k : X M d mc ms Q kc ks (pc + 1) lv (.int (nI (a / b)) :: st) σ) : X M d mc ms Q kc ks pc lv (.int (nI b) :: .int (nI a) :: st) σ :=
  x_idiv hd (nI_ne0 h0 hb) (by rw [pk_div ha h0 hb]; exact k)
theorem x_iremN (ha : a < 2147483648) (h0 : 0 < b) (hb : b < 2147483648) (hd : decode M.2.1 pc = .ok (.irem, 1)) (k : X M d mc ms Q kc ks (pc + 1) lv (.int (nI (a % b)) :: st) σ) : X M d mc ms Q kc ks pc lv (.int (nI b) :: .int (nI a) :: st) σ :=
  x_irem hd (nI_ne0 h0 hb) (by rw [pk_rem ha h0 hb]; exact k)
theorem x_icmpN_lt (hd : decode M.2.1 pc = .ok (.if_icmp .lt off, 3)) (ht : (pc : Int) + off = (tgt : Int)) (ha : a < 2147483648) (hb : b < 2147483648) (kt : a < b → X M d mc ms Q kc ks tgt lv st σ) (kf : b ≤ a → X M d mc ms Q kc ks (pc + 3) lv st σ) : X M d mc ms Q kc ks pc lv (.int (nI b) :: .int (nI a) :: st) σ :=
  x_icmp_lt hd ht (fun h => kt ((nI_ltI ha hb).mp h)) (fun h => kf (Nat.not_lt.mp (fun q => h ((nI_ltI ha hb).mpr q))))
theorem x_icmpN_ge (hd : decode M.2.1 pc = .ok (.if_icmp .ge off, 3)) (ht : (pc : Int) + off = (tgt : Int)) (ha : a < 2147483648) (hb : b < 2147483648) (kt : b ≤ a → X M d mc ms Q kc ks tgt lv st σ) (kf : a < b → X M d mc ms Q kc ks (pc + 3) lv st σ) : X M d mc ms Q kc ks pc lv (.int (nI b) :: .int (nI a) :: st) σ :=
  x_icmp_ge hd ht (fun h => kt ((nI_leI hb ha).mp h)) (fun h => kf (Nat.not_le.mp (fun q => h ((nI_leI hb ha).mpr q))))
theorem x_icmpN_gt (hd : decode M.2.1 pc = .ok (.if_icmp .gt off, 3)) (ht : (pc : Int) + off = (tgt : Int)) (ha : a < 2147483648) (hb : b < 2147483648) (kt : b < a → X M d mc ms Q kc ks tgt lv st σ) (kf : a ≤ b → X M d mc ms Q kc ks (pc + 3) lv st σ) : X M d mc ms Q kc ks pc lv (.int (nI b) :: .int (nI a) :: st) σ :=
  x_icmp_gt hd ht (fun h => kt ((nI_ltI hb ha).mp h)) (fun h => kf (Nat.not_lt.mp (fun q => h ((nI_ltI hb ha).mpr q))))
theorem x_icmpN_le (hd : decode M.2.1 pc = .ok (.if_icmp .le off, 3)) (ht : (pc : Int) + off = (tgt : Int)) (ha : a < 2147483648) (hb : b < 2147483648) (kt : a ≤ b → X M d mc ms Q kc ks tgt lv st σ) (kf : b < a → X M d mc ms Q kc ks (pc + 3) lv st σ) : X M d mc ms Q kc ks pc lv (.int (nI b) :: .int (nI a) :: st) σ :=
  x_icmp_le hd ht (fun h => kt ((nI_leI ha hb).mp h)) (fun h => kf (Nat.not_le.mp (fun q => h ((nI_leI ha hb).mpr q))))
theorem x_icmpN_eq (hd : decode M.2.1 pc = .ok (.if_icmp .eq off, 3)) (ht : (pc : Int) + off = (tgt : Int)) (ha : a < 2147483648) (hb : b < 2147483648) (kt : a = b → X M d mc ms Q kc ks tgt lv st σ) (kf : ¬ a = b → X M d mc ms Q kc ks (pc + 3) lv st σ) : X M d mc ms Q kc ks pc lv (.int (nI b) :: .int (nI a) :: st) σ :=
  x_icmp_eq hd ht (fun h => kt ((nI_eq ha hb).mp h)) (fun h => kf (fun q => h ((nI_eq ha hb).mpr q)))
theorem x_icmpN_ne (hd : decode M.2.1 pc = .ok (.if_icmp .ne off, 3)) (ht : (pc : Int) + off = (tgt : Int)) (ha : a < 2147483648) (hb : b < 2147483648) (kt : ¬ a = b → X M d mc ms Q kc ks tgt lv st σ) (kf : a = b → X M d mc ms Q kc ks (pc + 3) lv st σ) : X M d mc ms Q kc ks pc lv (.int (nI b) :: .int (nI a) :: st) σ :=
  x_icmp_ne hd ht (fun h => kt (fun q => h ((nI_eq ha hb).mpr q))) (fun h => kf ((nI_eq ha hb).mp h))
theorem x_ifN_eq (hd : decode M.2.1 pc = .ok (.ifCond .eq off, 3)) (ht : (pc : Int) + off = (tgt : Int)) (ha : a < 2147483648) (kt : a = 0 → X M d mc ms Q kc ks tgt lv st σ) (kf : 0 < a → X M d mc ms Q kc ks (pc + 3) lv st σ) : X M d mc ms Q kc ks pc lv (.int (nI a) :: st) σ :=
  x_if_eq hd ht (fun h => kt (by rw [← nI_0] at h; exact (nI_eq ha (by omega)).mp h)) (fun h => kf (Nat.pos_of_ne_zero (fun q => h (by rw [q]; exact nI_0))))
theorem x_ifN_ne (hd : decode M.2.1 pc = .ok (.ifCond .ne off, 3)) (ht : (pc : Int) + off = (tgt : Int)) (ha : a < 2147483648) (kt : 0 < a → X M d mc ms Q kc ks tgt lv st σ) (kf : a = 0 → X M d mc ms Q kc ks (pc + 3) lv st σ) : X M d mc ms Q kc ks pc lv (.int (nI a) :: st) σ :=
  x_if_ne hd ht (fun h => kt (Nat.pos_of_ne_zero (fun q => h (by rw [q]; exact nI_0)))) (fun h => kf (by rw [← nI_0] at h; exact (nI_eq ha (by omega)).mp h))
theorem x_ifN_lt (hd : decode M.2.1 pc = .ok (.ifCond .lt off, 3)) (ha : a < 2147483648) (kf : X M d mc ms Q kc ks (pc + 3) lv st σ) (ht : (pc : Int) + off = (tgt : Int)) : X M d mc ms Q kc ks pc lv (.int (nI a) :: st) σ :=
  x_if_lt hd ht (fun h => absurd h (nI_pos ha)) (fun _ => kf)
theorem x_ifN_ge (hd : decode M.2.1 pc = .ok (.ifCond .ge off, 3)) (ht : (pc : Int) + off = (tgt : Int)) (ha : a < 2147483648) (kt : X M d mc ms Q kc ks tgt lv st σ) : X M d mc ms Q kc ks pc lv (.int (nI a) :: st) σ :=
  x_if_ge hd ht (fun _ => kt) (fun h => absurd (nI_pos' ha) h)
theorem x_ifN_gt (hd : decode M.2.1 pc = .ok (.ifCond .gt off, 3)) (ht : (pc : Int) + off = (tgt : Int)) (ha : a < 2147483648) (kt : 0 < a → X M d mc ms Q kc ks tgt lv st σ) (kf : a = 0 → X M d mc ms Q kc ks (pc + 3) lv st σ) : X M d mc ms Q kc ks pc lv (.int (nI a) :: st) σ :=
  x_if_gt hd ht (fun h => kt (by rw [← nI_0] at h; exact (nI_ltI (by omega) ha).mp h)) (fun h => kf (Nat.eq_zero_of_not_pos (fun q => h (by rw [← nI_0]; exact (nI_ltI (by omega) ha).mpr q))))
theorem x_ifN_le (hd : decode M.2.1 pc = .ok (.ifCond .le off, 3)) (ht : (pc : Int) + off = (tgt : Int)) (ha : a < 2147483648) (kt : a = 0 → X M d mc ms Q kc ks tgt lv st σ) (kf : 0 < a → X M d mc ms Q kc ks (pc + 3) lv st σ) : X M d mc ms Q kc ks pc lv (.int (nI a) :: st) σ :=
  x_if_le hd ht (fun h => kt (Nat.eq_zero_of_not_pos (fun q => absurd h (nI_nle q ha)))) (fun h => kf (Nat.pos_of_ne_zero (fun q => h (by rw [q, nI_0]; exact Int32.le_refl 0))))
theorem x_iincN {i : Nat} (hd : decode M.2.1 pc = .ok (.iinc i 1, 3)) (hl : lv[i]? = some (some (.int (nI a)))) (hn : i < M.2.2.1) (hok : zok1 lv i = true) (k : X M d mc ms Q kc ks (pc + 3) (lv.set i (some (.int (nI (a + 1))))) st σ) : X M d mc ms Q kc ks pc lv st σ :=
  x_iinc hd hl (by rw [nI_succ]; rfl) hn hok k
theorem x_iincD {i : Nat} (hd : decode M.2.1 pc = .ok (.iinc i (-1), 3)) (hl : lv[i]? = some (some (.int (nI (a + 1))))) (hn : i < M.2.2.1) (hok : zok1 lv i = true) (k : X M d mc ms Q kc ks (pc + 3) (lv.set i (some (.int (nI a)))) st σ) : X M d mc ms Q kc ks pc lv st σ :=
  x_iinc hd hl (by rw [← pk_m1 a]; rfl) hn hok k
end NRows
